/-! THE TWO MACHINES: every instruction, STEP, run -/
section ME
variable {d x y : Int32} {σ τ : MS} {k : Nat} {v p w : Int32}
theorem sG_id (τ : MS) (k : Nat) : sG τ k (τ.1 k) = τ := by
  unfold sG
  have : va_up τ.1 k (τ.1 k) = τ.1 := by
    funext j; rw [va_upv]; split
    · next h => rw [h]
    · rfl
  rw [this]
theorem sG_cm {τ : MS} {j k : Nat} {u v : Int32} (h : j ≠ k) : sG (sG τ j u) k v = sG (sG τ k v) j u := by
  unfold sG
  congr 1
  funext i
  show va_up (va_up τ.1 j u) k v i = va_up (va_up τ.1 k v) j u i
  simp only [va_upv]
  by_cases c : i = k
  · rw [if_pos c, if_neg (by omega), if_pos c]
  · rw [if_neg c, if_neg c]
theorem Rw.put (q : Rw d x y σ τ) (nb : ¬ outM τ p) (hv : W16 v) : Rw d x y (putS σ (p &&& 65535) v) (mpt τ p v) := by
  unfold putS mpt
  rw [ifp_f (fun z => nb (q.bar.mp z))]
  by_cases c1 : p &&& 65535 = 65024
  · rw [if_pos c1, if_pos c1]
    refine q.b14 ?_
    unfold b14v
    by_cases e : v &&& 16384 = 0
    · rw [if_neg (fun z => (hv.b14.mp z) e), if_pos rfl]; exact e
    · rw [if_pos (hv.b14.mpr e), if_neg (by decide)]
      exact hv.v14.resolve_left e
  rw [if_neg c1, if_neg c1]
  by_cases c2 : p &&& 65535 = 65026
  · rw [if_pos c2, if_neg (by rw [c2]; decide), if_neg (by rw [c2]; decide), if_pos c2]; exact q
  rw [if_neg c2]
  by_cases c3 : p &&& 65535 = 65028
  · rw [if_pos c3, if_neg (by rw [c3]; decide), if_neg (by rw [c3]; decide), if_neg c2, if_pos c3]; exact q
  rw [if_neg c3]
  by_cases c4 : p &&& 65535 = 65030
  · rw [if_pos c4, if_pos c4]; exact q.P rfl
  rw [if_neg c4, if_neg c4]
  by_cases c5 : p &&& 65535 = 65534
  · rw [if_pos c5, if_pos c5]
    by_cases e : v &&& 32768 = 0
    · rw [if_pos e, if_pos (hv.b15.mpr e)]; exact q.G (by decide) (fun _ => ⟨1, by decide, rfl⟩)
    · rw [if_neg e, if_neg (fun z => e (hv.b15.mp z)), sG_id]; exact q
  rw [if_neg c5, if_neg c5, if_neg c2, if_neg c3, hv.c, (w_and p).ixe]
  exact q.mem hv
theorem mpt_9 : (mpt τ p v).1 9 = τ.1 9 ∧ (mpt τ p v).1 6 = τ.1 6 ∧ (mpt τ p v).1 8 = τ.1 8 := by
  unfold mpt
  repeat' split
  all_goals exact ⟨rfl, rfl, rfl⟩
theorem Rw.wrt (q : Rw d (-1) 0 σ τ) (hv : W16 v) : Rs d (putS σ (p &&& 65535) v) (mwr τ p v) := by
  have h0 : τ.1 21 = 0 := q.1.2.2.2.2.2.2.2
  unfold mwr
  by_cases c : outM τ p
  · rw [fl1 h0 c, if_neg (by decide)]
    unfold putS
    rw [ifp_t (q.bar.mpr c)]
    exact Or.inr q.C.M
  · rw [fl0 h0 c, if_pos rfl]
    exact Or.inl ((q.M (v := 0)).put c hv)
theorem Rw.wrs (q : Rw d 2 1 σ τ) : Rw d 2 1 σ (mwr τ p v) := by
  unfold mwr
  rw [fl2 (by rw [q.1.2.2.2.2.2.2.2]; decide), if_neg (by decide)]
  exact q.M
theorem Rw.give (q : Rw d (-1) 0 σ τ) (hv : W16 v) : Rs d (givS σ (p &&& 65535) v) (mwr τ p v) := by
  unfold givS
  rw [if_pos q.1.2.2.2.2.2.2.1]; exact q.wrt hv
theorem dr_lt (w : Int32) : (drS w).toNatClampNeg < 8 := Nat.not_le.mp (fun z => in3 (w >>> ((9 : Int32) &&& 31)) (Or.inr z))
theorem ra_lt (w : Int32) : (w >>> ((6 : Int32) &&& 31) &&& 7).toNatClampNeg < 8 := Nat.not_le.mp (fun z => in3 (w >>> ((6 : Int32) &&& 31)) (Or.inr z))
theorem rs_lt (w : Int32) : (w &&& 7).toNatClampNeg < 8 := Nat.not_le.mp (fun z => in3 w (Or.inr z))
theorem Rw.dr (q : Rw d x y σ τ) (w : Int32) : σ.1 (drS w).toNatClampNeg = τ.1 (drS w).toNatClampNeg ∧ W16 (τ.1 (drS w).toNatClampNeg) := by
  have := dr_lt w
  exact ⟨q.1.1 _ (by omega) (by omega) (by omega), q.2.1 _ (by omega)⟩
theorem Rw.ra (q : Rw d x y σ τ) (w : Int32) : raS σ w = raS τ w ∧ W16 (raS τ w) := by
  have := ra_lt w
  exact ⟨q.1.1 _ (by omega) (by omega) (by omega), q.2.1 _ (by omega)⟩
theorem Rw.sec (q : Rw d x y σ τ) (hw : W16 w) : secS σ w = secM τ w := by
  unfold secS secM
  by_cases c : w &&& 32 = 0
  · rw [if_pos c, if_neg (fun z => (hw.b5.mp z) c)]
    have := rs_lt w
    exact q.1.1 _ (by omega) (by omega) (by omega)
  · rw [if_neg c, if_pos (hw.b5.mpr c), sg5]
theorem Rw.set (q : Rw d x 0 σ τ) (w v : Int32) : Rw d x 0 (setS σ (drS w) v) (mcm τ (drS w) v) := by
  have hd := dr_lt w
  unfold setS mcm
  rw [if_pos q.1.2.2.2.2.2.2.2]
  have r := q.G (k := (drS w).toNatClampNeg) (v := v &&& 65535) ⟨by omega, by omega, by omega⟩ (fun _ => w_and v)
  have e9 : (sG σ (drS w).toNatClampNeg (v &&& 65535)).1 9 = (sG τ (drS w).toNatClampNeg (v &&& 65535)).1 9 := r.g 9
  have es : sgn (v &&& 65535) = (if (sG τ (drS w).toNatClampNeg (v &&& 65535)).1 (drS w).toNatClampNeg < 32768 then (if (sG τ (drS w).toNatClampNeg (v &&& 65535)).1 (drS w).toNatClampNeg = 0 then 2 else 1) else 4) ∧ W16 (sgn (v &&& 65535)) := by
    rw [sG_s]
    unfold sgn
    by_cases c : v &&& 65535 = 0
    · rw [if_pos c, if_pos (by rw [c]; decide), if_pos c]; exact ⟨rfl, 2, by decide, rfl⟩
    · rw [if_neg c]
      by_cases c2 : v &&& 65535 < 32768
      · rw [if_pos c2, if_neg c, if_neg (Int32.not_le.mpr c2)]; exact ⟨rfl, 1, by decide, rfl⟩
      · rw [if_neg c2, if_pos (Int32.not_lt.mp c2)]; exact ⟨rfl, 4, by decide, rfl⟩
  rw [e9, ← es.1, (r.w 9).m (a := -8) (b := 65528) (by decide)]
  exact r.G (by decide) (fun _ => (W16.and (x := _) 65528 (n := 65528) (by decide) rfl).or es.2)
theorem mcm_f (q : Rw d x 1 σ τ) {dd : Int32} : mcm τ dd v = τ := by unfold mcm; rw [if_neg (by rw [q.1.2.2.2.2.2.2.2]; decide)]
theorem Rs.rec (q : Rs d σ τ) (w : Int32) : Rs d (recS σ (drS w) (p &&& 65535)) (mcm (mrd τ p) (drS w) (mrv τ p)) := by
  unfold recS
  rcases q with q | q
  · rw [if_pos q.1.2.2.2.2.2.2.1]
    obtain ⟨r, e, hw⟩ := q.fet p
    rcases r with r | r
    · rw [if_pos r.1.2.2.2.2.2.2.1, e]; exact Or.inl (r.set w _)
    · rw [if_neg (by rw [r.1.2.2.2.2.2.2.1]; decide), mcm_f r]; exact Or.inr r
  · rw [if_neg (by rw [q.1.2.2.2.2.2.2.1]; decide), mcm_f (q.skip p)]; exact Or.inr (q.skip p)
theorem Rs.giv (q : Rs d σ τ) (hv : W16 v) : Rs d (givS σ (p &&& 65535) v) (mwr τ p v) := by
  rcases q with q | q
  · exact q.give hv
  · unfold givS; rw [if_neg (by rw [q.1.2.2.2.2.2.2.1]; decide)]; exact Or.inr q.wrs
theorem Rw.cal (q : Rw d x y σ τ) (hw : W16 w) : Rw d x y (calS σ w (raS σ w)) (sG (sG τ 7 (τ.1 8)) 8 (if w >>> ((11 : Int32) &&& 31) &&& 1 = 1 then (sG τ 7 (τ.1 8)).1 8 + sgM w 11 &&& 65535 else raS τ w)) := by
  unfold calS
  rw [sG_cm (show (8 : Nat) ≠ 7 by decide), (q.ra w).1, q.g 8, show (sG τ 7 (τ.1 8)).1 8 = τ.1 8 from rfl, sg11]
  by_cases c : w &&& 2048 = 0
  · rw [if_pos c, if_neg (fun z => (hw.b11.mp z) c)]
    exact (q.G (by decide) (fun _ => q.w 8)).G (by decide) (fun _ => (q.ra w).2)
  · rw [if_neg c, if_pos (hw.b11.mpr c)]
    exact (q.G (by decide) (fun _ => q.w 8)).G (by decide) (fun _ => w_and _)
/-- going in -/
theorem Rw.in1 (q : Rw d x y σ τ) : Rw d x y (ent1 σ (τ.1 9)) (go1 τ) ∧ (go1 τ).1 9 < 32768 := by
  unfold ent1 go1
  have e : τ.1 9 &&& (-32769) = τ.1 9 &&& 32767 := (q.w 9).m (by decide)
  have r := q.G (k := 9) (v := τ.1 9 &&& 32767) (by decide) (fun _ => W16.and 32767 (n := 32767) (by decide) rfl)
  rw [e, r.g 6]
  refine ⟨r.G (by decide) (fun _ => w_and _), ?_⟩
  rw [sG_o (by decide), sG_s]
  obtain ⟨n, hn, e2⟩ := pk_andE (τ.1 9) (m := 32767) 15 (by decide)
  rw [e2, show (32768 : Int32) = nI 32768 from rfl, nI_ltI (by omega) (by decide)]; exact hn
theorem not_out (h : τ.1 9 < 32768) : ¬ outM τ p := fun z => z.1 h
theorem Rw.pts (q : Rw d x y σ τ) (h : τ.1 9 < 32768) (hp : W16 p) (hv : W16 v) : Rw d x y (putS σ p v) (mpt τ p v) := by
  have := q.put (p := p) (not_out h) hv
  rwa [hp.c] at this
theorem Rw.ein {b : Int32} (q : Rw d x y σ τ) (hb : b = τ.1 9) : Rw d x y (ent3 (ent2 (ent1 σ b) b)) (go3 (go2 (go1 τ) b)) := by
  subst hb
  obtain ⟨r, h9⟩ := q.in1
  have s2 : Rw d x y (ent2 (ent1 σ (τ.1 9)) (τ.1 9)) (go2 (go1 τ) (τ.1 9)) ∧ (go2 (go1 τ) (τ.1 9)).1 9 < 32768 := by
    unfold ent2 go2
    rw [r.g 6]
    have r2 := r.pts h9 (r.w 6) (q.w 9)
    rw [r2.g 6]
    exact ⟨r2.G (by decide) (fun _ => w_and _), by rw [sG_o (by decide), mpt_9.1]; exact h9⟩
  obtain ⟨r3, h9'⟩ := s2
  unfold ent3 go3
  rw [r3.g 6, r3.g 8]
  exact r3.pts h9' (r3.w 6) (r3.w 8)
theorem Rw.go (q : Rw d x y σ τ) {v : Nat} (hv : v < 65024) : Rw d x y (entS σ (nI v)) (sG (mgt (mgo τ) (nI v)) 8 (mlk (mgo τ) (nI v &&& 65535))) := by
  have hc : nI v &&& 65535 = nI v := W16.c ⟨v, by omega, rfl⟩
  have ne : ∀ k : Nat, 65024 ≤ k → k < 65536 → ¬ nI v = nI k := fun k h1 h2 => by rw [nI_eq (by omega) (by omega)]; omega
  have key : ∀ {σ' τ' : MS}, Rw d x y σ' τ' → Rw d x y (sG σ' 8 (σ'.2.1 (ix (nI v)))) (sG (mgt τ' (nI v)) 8 (mlk τ' (nI v &&& 65535))) := by
    intro σ' τ' r
    have hl := r.look (a := nI v) ⟨v, by omega, rfl⟩
    have e : lookS σ' (nI v) = σ'.2.1 (ix (nI v)) := by
      unfold lookS
      rw [if_neg (show ¬ nI v = (65024 : Int32) from ne 65024 (by omega) (by omega)), if_neg (show ¬ nI v = (65026 : Int32) from ne 65026 (by omega) (by omega)), if_neg (show ¬ nI v = (65028 : Int32) from ne 65028 (by omega) (by omega)), if_neg (show ¬ nI v = (65030 : Int32) from ne 65030 (by omega) (by omega)), if_neg (show ¬ nI v = (65534 : Int32) from ne 65534 (by omega) (by omega))]
    rw [mgt_ne (by rw [hc]; exact (show ¬ nI v = (65026 : Int32) from ne 65026 (by omega) (by omega))), hc, ← e, hl.1]
    exact r.G (by decide) (fun _ => hl.2)
  unfold entS mgo
  by_cases c : τ.1 9 < 32768
  · rw [if_pos (q.usr.mpr c), if_pos c]
    unfold entT
    rw [q.g 9]
    exact key (q.ein rfl)
  · rw [if_neg (fun z => c (q.usr.mp z)), if_neg c]
    unfold entT
    rw [q.g 9, q.g 6]
    have r := q.G (k := 11) (v := τ.1 6) (by decide) (fun _ => q.w 6)
    rw [r.g 10]
    exact key ((r.G (k := 6) (by decide) (fun _ => r.w 10)).ein rfl)
theorem Rw.mexe (q : Rw d x y σ τ) {j : Nat} (hj : j < 3) {e : Int32} (he : e = nI j) : Rw d x y (entS (sG σ 18 (σ.1 18 + 1)) (256 + e)) (mex τ e) := by
  have r := q.G (k := 18) (v := τ.1 18 + 1) (by decide) (fun h => by omega)
  subst he
  unfold mex
  rw [q.g 18, show (256 : Int32) + nI j = nI (256 + j) from nI_add 256 j]
  exact r.go (by omega)
/-- after an instruction: as before, or an exception that the reference has gone in for already -/
def Rd (d : Int32) (σ τ : MS) : Prop := Rs d σ τ ∨ ∃ (t : MS) (j : Nat), j < 2 ∧ Rw d (nI j) 0 σ t ∧ τ = mex t (nI j)
theorem mgt_k (τ : MS) (p : Int32) {k : Nat} (h : k ≠ 13) : (mgt τ p).1 k = τ.1 k := by
  unfold mgt
  split
  · split
    · exact sG_o h
    · rw [sG_o h]; exact sG_o h
  · rfl
theorem Rw.fets (q : Rw d x y σ τ) (h : τ.1 9 < 32768) (p : Int32) : Rw d x y (fetS σ (p &&& 65535)) (mgt τ p) ∧ fetV σ (p &&& 65535) = mlk τ (p &&& 65535) ∧ W16 (mlk τ (p &&& 65535)) := by
  unfold fetS fetV
  have nb : ¬ barS σ (p &&& 65535) := fun z => not_out h (q.bar.mp z)
  rw [ifp_f nb, ifp_f nb]
  exact ⟨q.get, q.look (w_and p)⟩
theorem Rw.com (q : Rw d (-1) 0 σ τ) : Rd d (comS σ) (mcb τ) := by
  unfold comS mcb
  by_cases c : τ.1 9 < 32768
  · rw [if_pos (q.usr.mpr c), if_pos c]
    have r1 : Rw d (-1) 0 (com1 σ) (cb1 τ) := by
      unfold com1 cb1
      have z := q.fets c (τ.1 6)
      rw [(q.w 6).c] at z ⊢
      rw [q.g 6, z.2.1]
      exact z.1.G (by decide) (fun _ => z.2.2)
    have c1 : (cb1 τ).1 9 < 32768 := by
      unfold cb1; rw [sG_o (by decide), mgt_k _ _ (by decide)]; exact c
    have r2 : Rw d (-1) 0 (com2 (com1 σ)) (cb2 (cb1 τ)) := by
      unfold com2 cb2
      have z := r1.fets c1 ((cb1 τ).1 6 + 1)
      rw [r1.g 6, z.2.1]
      exact z.1.G (by decide) (fun _ => W16.and 34567 (n := 34567) (by decide) rfl)
    have r3 : Rw d (-1) 0 (com3 (com2 (com1 σ))) (cb3 (cb2 (cb1 τ))) := by
      unfold com3 cb3
      rw [r2.g 6]
      exact r2.G (by decide) (fun _ => w_and _)
    left; left
    by_cases c3 : (cb3 (cb2 (cb1 τ))).1 9 < 32768
    · rw [if_pos (r3.usr.mpr c3), if_pos c3]; exact r3
    · rw [if_neg (fun z => c3 (r3.usr.mp z)), if_neg c3]
      unfold com4 cb4
      have r4 := r3.G (k := 10) (v := (cb3 (cb2 (cb1 τ))).1 6) (by decide) (fun _ => r3.w 6)
      rw [r3.g 6, r4.g 11]
      exact r4.G (by decide) (fun _ => r4.w 11)
  · rw [if_neg (fun z => c (q.usr.mp z)), if_neg c]
    exact Or.inr ⟨τ, 0, by decide, q.C, rfl⟩
theorem up1 (x : Int32) : (x &&& 65535) + 1 &&& 65535 = x + 1 &&& 65535 := by
  rw [pk_and x 16 (by decide), nI_1, pk_andN (by omega) 16 (by decide), pk_and (x + 1) 16 (by decide)]
  congr 1
  have : (x + 1).toBitVec.toNat = (x.toBitVec.toNat + 1) % 2 ^ 32 := by
    rw [Int32.toBitVec_add, BitVec.toNat_add]; rfl
  rw [this]; omega
theorem dn1 {a : Int32} (h : W16 a) : (a + 1 &&& 65535) - 1 &&& 65535 = a := by
  obtain ⟨n, hn, rfl⟩ := h
  rw [nI_1, pk_andN (by omega) 16 (by decide)]
  by_cases c : n = 65535
  · subst c; decide
  · rw [show (n + 1) % 2 ^ 16 = n + 1 by omega, nI_pred]
    exact W16.c ⟨n, hn, rfl⟩
theorem Rw.tk (q : Rw d (-1) 0 σ τ) {sh v at0 : Int32} (hs : sh = 0 ↔ ¬ v = 35) (ha : W16 at0) (h8 : τ.1 8 = at0 + 1 &&& 65535) : Rw d (-1) 0 (tkS σ sh) (mtk τ v at0) := by
  unfold tkS
  rw [q.1.2.2.2.1]
  cases e : τ.2.2.1 with
  | nil =>
    rw [if_pos rfl, mtk_n e, q.g 8, h8, dn1 ha]
    exact (q.G (by decide) (fun _ => ha)).G (by decide) (fun _ => ⟨2, by decide, rfl⟩)
  | cons k t =>
    have hd := q.da
    have hk : daS τ = k := by unfold daS; rw [e]
    have bk : B8 k := q.2.2.2 k (by rw [e]; exact List.mem_cons_self)
    have r := (q.G (k := 0) (v := k) (by decide) (fun _ => bk.w)).K (ks := t) (fun y hy => q.2.2.2 y (by rw [e]; exact List.mem_cons_of_mem _ hy))
    rw [if_neg (by simp), mtk_c e, hd.1, hk]
    by_cases c : v = 35
    · rw [if_neg (fun z => (hs.mp z) c), if_pos c]
      exact r.P (by show (sG σ 0 k).1 0 &&& 255 = (sG (sK τ t) 0 k).1 0; rw [sG_s, sG_s]; exact bk.c)
    · rw [if_pos (hs.mpr c), if_neg c]; exact r
theorem Rw.pwo (q : Rw d x y σ τ) {w pk : Int32} (hw : W16 w) : Rw d x y (pw1 σ w pk) (st1 τ w pk) ∧ (st1 τ w pk).1 0 = τ.1 0 := by
  unfold pw1 st1
  have r := q.P (b := w) rfl
  by_cases c : pk = 0
  · rw [if_pos c, if_pos c]; exact ⟨r, rfl⟩
  · rw [if_neg c, if_neg c]
    by_cases c2 : w >>> ((8 : Int32) &&& 31) = 0
    · rw [if_pos c2, if_pos c2]; exact ⟨r, rfl⟩
    · rw [if_neg c2, if_neg c2]; exact ⟨r.P hw.hi.c, rfl⟩
theorem Rw.pw {pk : Int32} : ∀ (m n : Nat) {σ τ : MS} (_ : Rw d x y σ τ), Rw d x y (pwS m σ pk n) (mst m τ pk (τ.1 0 + nI n &&& 65535)) := by
  intro m
  induction m with
  | zero => intro n σ τ q; exact q
  | succ m ih =>
    intro n σ τ q
    have hl := q.look (w_and (τ.1 0 + nI n))
    rw [pwS, mst, q.g 0, hl.1]
    by_cases c : mlk τ (τ.1 0 + nI n &&& 65535) = 0
    · rw [if_pos c, if_pos c]; exact q
    · rw [if_neg c, if_neg c]
      obtain ⟨r, e⟩ := q.pwo (pk := pk) hl.2
      have z := ih (n + 1) r
      rw [e] at z
      rw [up1, Int32.add_assoc, nI_1]; exact z
theorem Rw.trp (q : Rw d (-1) 0 σ τ) {v at0 : Int32} (hv : B8 v) (ha : W16 at0) (h8 : τ.1 8 = at0 + 1 &&& 65535) : Rd d (trpS σ v) (mtr τ v at0) := by
  unfold trpS mtr
  have e : σ.2.1 (ix v) = τ.2.1 v.toNatClampNeg := by
    rw [← hv.w.ixe]; exact q.1.2.2.1 _ hv.w.lt
  have h0 : τ.1 0 + nI 0 &&& 65535 = τ.1 0 := by
    rw [show nI 0 = (0 : Int32) from rfl, Int32.add_zero]; exact (q.w 0).c
  rw [e]
  by_cases c0 : τ.2.1 v.toNatClampNeg = 0
  · rw [if_pos c0, if_pos c0]
    by_cases c1 : v = 32
    · rw [if_pos c1, if_pos c1]
      exact Or.inl (Or.inl (q.tk (by rw [c1]; decide) ha h8))
    by_cases c2 : v = 33
    · rw [if_neg c1, if_pos c2, if_neg c1, if_neg (by rw [c2]; decide), if_pos c2]
      exact Or.inl (Or.inl (q.P (by rw [q.g 0])))
    by_cases c3 : v = 34
    · rw [if_neg c1, if_neg c2, if_pos c3, if_neg c1, if_neg (by rw [c3]; decide), if_neg c2, if_pos c3]
      have z := Rw.pw (pk := 0) 4096 0 q
      rw [h0] at z
      exact Or.inl (Or.inl z)
    by_cases c4 : v = 35
    · rw [if_neg c1, if_neg c2, if_neg c3, if_pos c4, if_neg c1, if_pos c4]
      exact Or.inl (Or.inl (q.tk (by rw [c4]; decide) ha h8))
    by_cases c5 : v = 36
    · rw [if_neg c1, if_neg c2, if_neg c3, if_neg c4, if_pos c5, if_neg c1, if_neg c4, if_neg c2, if_neg c3, if_pos c5]
      have z := Rw.pw (pk := 1) 4096 0 q
      rw [h0] at z
      exact Or.inl (Or.inl z)
    rw [if_neg c1, if_neg c2, if_neg c3, if_neg c4, if_neg c5, if_neg c1, if_neg c4, if_neg c2, if_neg c3, if_neg c5]
    by_cases c6 : v = 37
    · rw [if_pos c6, if_pos c6]; exact Or.inl (Or.inl (q.G (by decide) (fun _ => ⟨1, by decide, rfl⟩)))
    · rw [if_neg c6, if_neg c6]
      exact Or.inr ⟨τ, 1, by decide, q.C, rfl⟩
  · rw [if_neg c0, if_neg c0]
    unfold mgi
    obtain ⟨n, hn, rfl⟩ := hv
    rw [q.g 19]
    exact Or.inl (Or.inl ((q.G (k := 19) (v := τ.1 19 + 1) (by decide) (fun h => by omega)).go (by omega)))
theorem Rw.per (q : Rw d (-1) 0 σ τ) {w at0 : Int32} (hw : W16 w) (ha : W16 at0) (h8 : τ.1 8 = at0 + 1 &&& 65535) : Rd d (perS σ w) (mds τ w at0) := by
  have hn : neS σ w = neM τ w ∧ neM τ w &&& 65535 = neM τ w ∧ W16 (neM τ w) := by
    unfold neS neM; rw [q.g 8, sg9]; exact ⟨rfl, (w_and _).c, w_and _⟩
  have hr := q.ra w
  have hof : ofS σ w = raS τ w + sgM w 6 &&& 65535 := by unfold ofS; rw [hr.1, sg6]
  have hdr := q.dr w
  have hse := q.sec hw
  unfold perS mds
  by_cases c0 : w >>> ((12 : Int32) &&& 31) = 0
  · rw [if_pos c0, if_pos c0, q.g 9, show w >>> ((9 : Int32) &&& 31) &&& 7 &&& τ.1 9 = drS w &&& τ.1 9 from rfl]
    by_cases c : drS w &&& τ.1 9 = 0
    · rw [if_pos c, if_pos c]; exact Or.inl (Or.inl q)
    · rw [if_neg c, if_neg c, hn.1]; exact Or.inl (Or.inl (q.G (by decide) (fun _ => hn.2.2)))
  rw [if_neg c0, if_neg c0]
  by_cases c1 : w >>> ((12 : Int32) &&& 31) = 1
  · rw [if_pos c1, if_pos c1, hr.1, hse]; exact Or.inl (Or.inl (q.set w _))
  rw [if_neg c1, if_neg c1]
  by_cases c2 : w >>> ((12 : Int32) &&& 31) = 2
  · rw [if_pos c2, if_pos c2, hn.1]
    have z := Rs.rec (Or.inl q) (p := neM τ w) w
    rw [hn.2.1] at z; exact Or.inl z
  rw [if_neg c2, if_neg c2]
  by_cases c3 : w >>> ((12 : Int32) &&& 31) = 3
  · rw [if_pos c3, if_pos c3, hn.1, hdr.1]
    have z := Rs.giv (Or.inl q) (p := neM τ w) hdr.2
    rw [hn.2.1] at z; exact Or.inl z
  rw [if_neg c3, if_neg c3]
  by_cases c4 : w >>> ((12 : Int32) &&& 31) = 4
  · rw [if_pos c4, if_pos c4]; exact Or.inl (Or.inl (q.cal hw))
  rw [if_neg c4, if_neg c4]
  by_cases c5 : w >>> ((12 : Int32) &&& 31) = 5
  · rw [if_pos c5, if_pos c5, hr.1, hse]; exact Or.inl (Or.inl (q.set w _))
  rw [if_neg c5, if_neg c5]
  by_cases c6 : w >>> ((12 : Int32) &&& 31) = 6
  · rw [if_pos c6, if_pos c6, hof]; exact Or.inl (Rs.rec (Or.inl q) w)
  rw [if_neg c6, if_neg c6]
  by_cases c7 : w >>> ((12 : Int32) &&& 31) = 7
  · rw [if_pos c7, if_pos c7, hof, hdr.1]; exact Or.inl (Rs.giv (Or.inl q) hdr.2)
  rw [if_neg c7, if_neg c7]
  by_cases c8 : w >>> ((12 : Int32) &&& 31) = 8
  · rw [if_pos c8, if_pos c8]; exact q.com
  rw [if_neg c8, if_neg c8]
  by_cases c9 : w >>> ((12 : Int32) &&& 31) = 9
  · rw [if_pos c9, if_pos c9, hr.1]; exact Or.inl (Or.inl (q.set w _))
  rw [if_neg c9, if_neg c9]
  have hf := q.fet (neM τ w)
  rw [hn.2.1] at hf
  by_cases ca : w >>> ((12 : Int32) &&& 31) = 10
  · rw [if_pos ca, if_pos ca, hn.1, hf.2.1]
    have z := hf.1.rec (p := mrv τ (neM τ w)) w
    rw [hf.2.2.c] at z; exact Or.inl z
  rw [if_neg ca, if_neg ca]
  by_cases cb : w >>> ((12 : Int32) &&& 31) = 11
  · rw [if_pos cb, if_pos cb, hn.1, hf.2.1]
    have hd2 : (fetS σ (neM τ w)).1 (drS w).toNatClampNeg = (mrd τ (neM τ w)).1 (drS w).toNatClampNeg ∧ W16 ((mrd τ (neM τ w)).1 (drS w).toNatClampNeg) := by
      rcases hf.1 with z | z
      · exact z.dr w
      · exact z.dr w
    have z := hf.1.giv (p := mrv τ (neM τ w)) hd2.2
    rw [hf.2.2.c] at z
    rw [hd2.1]; exact Or.inl z
  rw [if_neg cb, if_neg cb]
  by_cases cc : w >>> ((12 : Int32) &&& 31) = 12
  · rw [if_pos cc, if_pos cc, hr.1]; exact Or.inl (Or.inl (q.G (by decide) (fun _ => hr.2)))
  rw [if_neg cc, if_neg cc]
  by_cases cd : w >>> ((12 : Int32) &&& 31) = 13
  · rw [if_pos cd, if_pos cd]; exact Or.inr ⟨τ, 1, by decide, q.C, rfl⟩
  rw [if_neg cd, if_neg cd]
  by_cases ce : w >>> ((12 : Int32) &&& 31) = 14
  · rw [if_pos ce, if_pos ce, hn.1]
    have := dr_lt w
    exact Or.inl (Or.inl (q.G ⟨by omega, by omega, by omega⟩ (fun _ => hn.2.2)))
  rw [if_neg ce, if_neg ce]
  have cf : w >>> ((12 : Int32) &&& 31) = 15 := by
    obtain ⟨n, hn, rfl⟩ := hw
    rw [pk_shrN (by omega) _ 12 (by decide)] at *
    have hk : n / 2 ^ 12 < 16 := by omega
    generalize n / 2 ^ 12 = m at *
    have t : ∀ k : Nat, k < 16 → ¬ nI m = nI k → m ≠ k := fun k hk h e => h (by rw [e])
    have := t 0 (by decide) c0; have := t 1 (by decide) c1; have := t 2 (by decide) c2; have := t 3 (by decide) c3; have := t 4 (by decide) c4; have := t 5 (by decide) c5; have := t 6 (by decide) c6; have := t 7 (by decide) c7
    have := t 8 (by decide) c8; have := t 9 (by decide) c9; have := t 10 (by decide) ca; have := t 11 (by decide) cb; have := t 12 (by decide) cc; have := t 13 (by decide) cd; have := t 14 (by decide) ce
    rw [show m = 15 by omega]; rfl
  rw [if_pos cf]
  exact q.trp (b_and w) ha h8
theorem mpt_21 : (mpt τ p v).1 21 = τ.1 21 := by
  unfold mpt
  repeat' split
  all_goals rfl
theorem go_21 (b : Int32) : (go3 (go2 (go1 τ) b)).1 21 = τ.1 21 := by
  unfold go3 go2 go1
  rw [mpt_21, sG_o (by decide), mpt_21, sG_o (by decide), sG_o (by decide)]
theorem mex_21 {e : Int32} : (mex τ e).1 21 = τ.1 21 := by
  unfold mex
  rw [sG_o (by decide), mgt_k _ _ (by decide)]
  unfold mgo
  split
  · rw [go_21, sG_o (by decide)]
  · rw [go_21, sG_o (by decide), sG_o (by decide), sG_o (by decide)]
theorem Rw.nor (q : Rw d x y σ τ) : ∃ x' y', Rw d x' y' (norS σ) (mbod τ) := by
  have q0 : Rw d (-1) 0 (sG σ 20 (-1)) (sG τ 21 0) := q.C.M
  have hf := q0.fet (τ.1 8)
  rw [(q.w 8).c] at hf
  have e8 : ((sG τ 21 0).1 8) = τ.1 8 := rfl
  have m8 : (mrd (sG τ 21 0) (τ.1 8)).1 8 = τ.1 8 := by
    unfold mrd
    split
    · rw [mgt_k _ _ (by decide)]; rfl
    · rfl
  unfold norS
  have hn1 : nr1 σ = sG (fetS (sG σ 20 (-1)) (τ.1 8)) 8 (τ.1 8 + 1 &&& 65535) := by
    unfold nr1
    rw [q.g 8]
    congr 3
    rcases hf.1 with z | z
    · rw [z.g 8, m8]
    · rw [z.g 8, m8]
  have hm1 : sG (mrd (sG τ 21 0) ((sG τ 21 0).1 8)) 8 ((mrd (sG τ 21 0) ((sG τ 21 0).1 8)).1 8 + 1 &&& 65535) = sG (mrd (sG τ 21 0) (τ.1 8)) 8 (τ.1 8 + 1 &&& 65535) := by rw [e8, m8]
  unfold mbod nr2
  rw [hm1, e8, hn1, q.g 8]
  generalize hA : sG (fetS (sG σ 20 (-1)) (τ.1 8)) 8 (τ.1 8 + 1 &&& 65535) = A
  generalize hB : sG (mrd (sG τ 21 0) (τ.1 8)) 8 (τ.1 8 + 1 &&& 65535) = B
  have hAB : Rs d A B := by
    rw [← hA, ← hB]
    rcases hf.1 with z | z
    · exact Or.inl (z.G (by decide) (fun _ => w_and _))
    · exact Or.inr (z.G (by decide) (fun _ => w_and _))
  have hB8 : B.1 8 = τ.1 8 + 1 &&& 65535 := by rw [← hB, sG_s]
  have exc : ∀ {S T : MS} {j : Nat} {y' : Int32}, j < 3 → Rw d (nI j) y' S T → ∃ x' y', Rw d x' y' (excS S) (mex T (nI j)) := by
    intro S T j y' hj z
    unfold excS
    rw [z.1.2.2.2.2.2.2.1]
    exact ⟨_, _, z.mexe hj rfl⟩
  rcases hAB with z | z
  · have a20 : A.1 20 = -1 := z.1.2.2.2.2.2.2.1
    have b21 : B.1 21 = 0 := z.1.2.2.2.2.2.2.2
    rw [if_pos a20, if_pos b21, hf.2.1]
    have hp := z.per (w := mrv (sG τ 21 0) (τ.1 8)) (at0 := τ.1 8) hf.2.2 (q.w 8) hB8
    rcases hp with (r | r) | ⟨t, j, hj, r, e⟩
    · rw [if_pos r.1.2.2.2.2.2.2.1, if_pos r.1.2.2.2.2.2.2.2]; exact ⟨_, _, r⟩
    · rw [if_neg (by rw [r.1.2.2.2.2.2.2.1]; decide), if_neg (by rw [r.1.2.2.2.2.2.2.2]; decide)]
      exact exc (j := 2) (by decide) r
    · have h20 : ¬ nI j = -1 := by
        rcases (show j = 0 ∨ j = 1 by omega) with rfl | rfl <;> decide
      rw [if_neg (by rw [r.1.2.2.2.2.2.2.1]; exact h20), if_pos (by rw [e, mex_21]; exact r.1.2.2.2.2.2.2.2), e]
      exact exc (by omega) r
  · have a20 : ¬ A.1 20 = -1 := by rw [z.1.2.2.2.2.2.2.1]; decide
    have b21 : ¬ B.1 21 = 0 := by rw [z.1.2.2.2.2.2.2.2]; decide
    rw [if_neg a20, if_neg b21, if_neg a20]
    exact exc (j := 2) (by decide) z
theorem Rw.int (q : Rw d x y σ τ) : Rw d x y (intS σ) (mirq τ) := by
  have r := (q.G (k := 17) (v := τ.1 17 + 1) (by decide) (fun h => by omega)).go (v := 384) (by decide)
  unfold intS mirq mir3 mir2
  rw [q.g 17]
  rw [show (384 : Int32) = nI 384 from rfl]
  have hc : nI 384 &&& 65535 = nI 384 := by decide
  have hne : ¬ nI 384 &&& 65535 = 65026 := by decide
  rw [mgt_ne hne] at r
  rw [mgt_ne hne, r.g 9, sG_o (show (9 : Nat) ≠ 8 by decide)]
  generalize mgo (sG τ 17 (τ.1 17 + 1)) = T at *
  have hw : W16 (T.1 9) := by have := r.w 9; rwa [sG_o (by decide)] at this
  have em : mlk (sG T 9 (T.1 9 &&& 63743 ||| 1024)) (nI 384 &&& 65535) = mlk T (nI 384 &&& 65535) := rfl
  rw [em, sG_cm (show (9 : Nat) ≠ 8 by decide), hw.m (a := -1793) (b := 63743) (by decide)]
  exact r.G (by decide) (fun _ => (W16.and 63743 (n := 63743) (by decide) rfl).or ⟨1024, by decide, rfl⟩)
theorem Rw.step (q : Rw d x y σ τ) : ∃ x' y', Rw (d + 1) x' y' (stpS σ) (mstp τ) := by
  have r := q.M16
  unfold mstp
  generalize sG τ 16 (τ.1 16 + 1) = T at *
  unfold stpS mstq stS
  rw [r.1.2.2.2.1, r.1.2.1, r.g 9]
  have hp := (r.w 9).pri
  unfold b14v
  by_cases c1 : T.1 14 = 0
  · rw [if_pos c1]
    have : ¬ (if T.2.2.1 = [] then (0 : Int32) else 32768 ||| 0) = 49152 := by
      split <;> decide
    rw [if_neg this, if_pos c1]; exact r.nor
  · rw [if_neg c1]
    by_cases c2 : T.2.2.1 = []
    · have : ¬ (if T.2.2.1 = [] then (16384 : Int32) else 32768 ||| 16384) = 49152 := by
        rw [if_pos c2]; decide
      rw [if_neg this, if_neg c1, if_pos c2]; exact r.nor
    · rw [if_neg c2, if_pos (by decide), if_neg c1, if_neg c2]
      by_cases c3 : 4 ≤ T.1 9 >>> ((8 : Int32) &&& 31) &&& 7
      · rw [if_pos (hp.mpr c3), if_pos c3]; exact r.nor
      · rw [if_neg (fun z => c3 (hp.mp z)), if_neg c3]; exact ⟨_, _, r.int⟩
theorem Rw.goes : ∀ (m n : Nat) {d x y : Int32} {σ τ : MS} (_ : Rw d x y σ τ), (goS m σ n).2 = (mgoS m τ n).2 ∧ ∃ x' y', Rw (d - nI n + nI (goS m σ n).2) x' y' (goS m σ n).1 (mgoS m τ n).1 := by
  intro m
  induction m with
  | zero => intro n d x y σ τ q; exact ⟨rfl, x, y, by rw [goS, mgoS, Int32.sub_add_cancel]; exact q⟩
  | succ m ih =>
    intro n d x y σ τ q
    rw [goS, mgoS, q.g 12]
    by_cases c : τ.1 12 = 1
    · rw [if_pos c, if_pos c]; exact ⟨rfl, x, y, by rw [Int32.sub_add_cancel]; exact q⟩
    · rw [if_neg c, if_neg c]
      obtain ⟨x', y', r⟩ := (q.G (k := 12) (v := 0) (by decide) (fun _ => w_0)).step
      rw [r.g 12]
      by_cases c2 : (mstp (sG τ 12 0)).1 12 = 2
      · rw [if_pos c2, if_pos c2]
        refine ⟨rfl, x', y', ?_⟩
        show Rw (d - nI n + nI (n + 1)) x' y' _ _
        rw [← nI_1, ← Int32.add_assoc, Int32.sub_add_cancel]; exact r
      · rw [if_neg c2, if_neg c2]
        obtain ⟨a, x2, y2, b⟩ := ih (n + 1) r
        refine ⟨a, x2, y2, ?_⟩
        have e : d + 1 - nI (n + 1) = d - nI n := by
          rw [← nI_1]
          rw [Int32.sub_eq_add_neg, Int32.sub_eq_add_neg, Int32.neg_add, Int32.sub_eq_add_neg, Int32.add_assoc, Int32.add_comm (-nI n), ← Int32.add_assoc 1, Int32.add_right_neg, Int32.zero_add]
        rw [e] at b; exact b
end ME
