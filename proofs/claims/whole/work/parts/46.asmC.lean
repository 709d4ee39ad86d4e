/-! THE CLASS's ASSEMBLER: its state; D is the draft's cell -/
abbrev AK : Type := (Nat → Nat → Int32) × (Nat → Nat → Int64) × KS
def aP (α : AK) (c k : Nat) (v : Int32) : AK := (uP α.1 c k v, α.2)
def uPl (ψ : Nat → Nat → Int64) (c k : Nat) (v : Int64) : Nat → Nat → Int64 := fun c' k' => if c' = c then (if k' = k then v else ψ c' k') else ψ c' k'
def aPl (α : AK) (c k : Nat) (v : Int64) : AK := (α.1, uPl α.2.1 c k v, α.2.2)
def aT (α : AK) (κ : KS) : AK := (α.1, α.2.1, κ)
def aCs (D : Nat) : List Nat := [3, D, D + 1, D + 2]
def RA (D : Nat) (h : PH) (T : List Int32) (α : AK) : Prop := St h ∧ RK h T α.2.2 ∧ (D = 6 ∨ D = 9) ∧ hR h 3 4 = some D ∧ (∀ c, c ∈ aCs D → ∀ k, hI h c k = α.1 c k) ∧ ∀ c, (c = 4 ∨ c = 5) → ∀ k, hL h c k = α.2.1 c k
def Fa (D : Nat) (h h' : PH) : Prop := hn h' = hn h ∧ hc h' = hc h ∧ hs h' = hs h ∧ (∀ a, a ∉ [3, 4, 5, 12, D, D + 1, D + 2] → hI h' a = hI h a ∧ hL h' a = hL h a) ∧ ∀ a k, ¬ (a = 12 ∧ k = 5) → hR h' a k = hR h a k
theorem Fa.rf {D : Nat} {h : PH} : Fa D h h := ⟨rfl, rfl, rfl, fun _ _ => ⟨rfl, rfl⟩, fun _ _ _ => rfl⟩
theorem Fa.tr {D : Nat} {h h1 h2 : PH} (q : Fa D h h1) (r : Fa D h1 h2) : Fa D h h2 := ⟨r.1.trans q.1, r.2.1.trans q.2.1, r.2.2.1.trans q.2.2.1, fun a ha => ⟨(r.2.2.2.1 a ha).1.trans (q.2.2.2.1 a ha).1, (r.2.2.2.1 a ha).2.trans (q.2.2.2.1 a ha).2⟩, fun a k hk => (r.2.2.2.2 a k hk).trans (q.2.2.2.2 a k hk)⟩
theorem Fa.k {D : Nat} {h0 h h' : PH} (f : Fa D h0 h) (g : Fk h h') : Fa D h0 h' := ⟨g.1.trans f.1, g.2.1.trans f.2.1, g.2.2.1.trans f.2.2.1, fun a ha => by
    have h12 : a ≠ 12 := fun e => ha (by rw [e]; simp)
    exact ⟨(g.2.2.2.1 a h12).1.trans (f.2.2.2.1 a ha).1, (g.2.2.2.1 a h12).2.1.trans (f.2.2.2.1 a ha).2⟩, fun a k hk => by
    by_cases e : a = 12
    · subst e; exact (g.2.2.2.2 k (fun e => hk ⟨rfl, e⟩)).trans (f.2.2.2.2 12 k hk)
    · rw [show hR h' a = hR h a from (g.2.2.2.1 a e).2.2]; exact f.2.2.2.2 a k hk⟩
theorem D_n {D : Nat} (hD : D = 6 ∨ D = 9) : kd D = 6 ∧ D < 40 ∧ kd (D + 1) = 12 ∧ kd (D + 2) = 12 ∧ ln (D + 1) = 4096 ∧ ln (D + 2) = 200 ∧ (D, 0, D + 1) ∈ stR ∧ (D, 1, D + 2) ∈ stR ∧ D + 2 < 40 ∧ D ≠ 3 ∧ D + 1 ≠ 12 ∧ D + 2 ≠ 12 ∧ D ≠ 12 ∧ 5 < D := by
  rcases hD with rfl | rfl <;> decide
theorem D_c {D : Nat} (hD : D = 6 ∨ D = 9) : ∀ c, c ∈ aCs D → c ∈ [3, 4, 5, 12, D, D + 1, D + 2] ∧ c ≠ 12 ∧ c ≠ 1 ∧ c ≠ 2 ∧ c ≠ 4 ∧ c ≠ 5 ∧ c < 40 := by
  rcases hD with rfl | rfl <;> decide
section
variable {X : Nat × (Nat → Int32)} {M : MR} {d L pc idx : Nat} {ls : List (Option Value)} {st : List Value} {h0 h : PH} {Q : Option Value → PH → Prop} {T : List Int32} {α : AK} {ty : FieldType} {k c D : Nat} {v i : Int32} {w : Int64} {f9 : Bool}
theorem RA.pi (q : RA D h T α) (hc : c ∈ aCs D) : RA D (sI h c k v) T (aP α c k v) := by
  have e := D_c q.2.2.1 c hc
  refine ⟨q.1.i, ⟨q.1.i, ?_, fun j h1 h2 => (rI_a (Ne.symm e.2.1)).trans (q.2.1.2.2.1 j h1 h2), q.2.1.2.2.2⟩, q.2.2.1, q.2.2.2.1, fun c2 hc2 j => ?_, q.2.2.2.2.2⟩
  · exact ⟨(rI_a (Ne.symm e.2.2.1)).trans q.2.1.2.1.1, q.2.1.2.1.2.1, fun i x hx => by rw [rI_a (Ne.symm e.2.2.2.1)]; exact q.2.1.2.1.2.2 i x hx⟩
  · show _ = uP α.1 c k v c2 j
    by_cases e1 : c2 = c
    · subst e1
      by_cases e2 : j = k
      · subst e2; rw [uP_s, rI, if_pos rfl, if_pos rfl]
      · rw [uP_k e2, rI_k e2]; exact q.2.2.2.2.1 c2 hc2 j
    · rw [uP_c e1, rI_a e1]; exact q.2.2.2.2.1 c2 hc2 j
theorem Fa.pi (f : Fa D h0 h) (hD : D = 6 ∨ D = 9) (hc : c ∈ aCs D) : Fa D h0 (sI h c k v) := ⟨f.1, f.2.1, f.2.2.1, fun a ha => ⟨by
    rw [← (f.2.2.2.1 a ha).1]; exact up2_o _ _ _ (fun e => ha (by rw [e]; exact (D_c hD c hc).1)), (f.2.2.2.1 a ha).2⟩, f.2.2.2.2⟩
theorem RA.pl (q : RA D h T α) (hc : c = 4 ∨ c = 5) : RA D (sL h c k w) T (aPl α c k w) := by
  have e12 : (12 : Nat) ≠ c := by rcases hc with rfl | rfl <;> decide
  refine ⟨q.1.l, ⟨q.1.l, q.2.1.2.1, q.2.1.2.2.1, ?_, ?_, q.2.1.2.2.2.2.2⟩, q.2.2.1, q.2.2.2.1, q.2.2.2.2.1, fun c2 hc2 j => ?_⟩
  · rw [rL, if_neg e12]; exact q.2.1.2.2.2.1
  · rw [rL, if_neg e12]; exact q.2.1.2.2.2.2.1
  · show _ = uPl α.2.1 c k w c2 j
    unfold uPl
    rw [rL]
    by_cases e1 : c2 = c
    · rw [if_pos e1, if_pos e1]
      by_cases e2 : j = k
      · rw [if_pos e2, if_pos e2]
      · rw [if_neg e2, if_neg e2]; exact q.2.2.2.2.2 c2 hc2 j
    · rw [if_neg e1, if_neg e1]; exact q.2.2.2.2.2 c2 hc2 j
theorem Fa.pl (f : Fa D h0 h) (hc : c = 4 ∨ c = 5) : Fa D h0 (sL h c k w) := ⟨f.1, f.2.1, f.2.2.1, fun a ha => ⟨(f.2.2.2.1 a ha).1, by
    rw [← (f.2.2.2.1 a ha).2]; exact up2_o _ _ _ (fun e => ha (by rw [e]; rcases hc with rfl | rfl <;> simp))⟩, f.2.2.2.2⟩
/-- the tokens went on -/
theorem RA.tok {h' : PH} {κ : KS} (q : RA D h T α) (g : Fk h h') (r : RK h' T κ) : RA D h' T (aT α κ) :=
  ⟨r.1, r, q.2.2.1, by rw [(g.2.2.2.1 3 (by decide)).2.2]; exact q.2.2.2.1, fun c hc j => by rw [(g.2.2.2.1 c (D_c q.2.2.1 c hc).2.1).1]; exact q.2.2.2.2.1 c hc j, fun c hc j => by rw [(g.2.2.2.1 c (by rcases hc with rfl | rfl <;> decide)).2.1]; exact q.2.2.2.2.2 c hc j⟩
theorem a_g3 (hk : fk 0 k = 0) (q : RA D h T α) (hd : decode M.2.1 pc = .ok (.getfield idx, 3)) (hf : FL M.1 idx 0 k ty f9) (kk : WP X M d L (pc + 3) ls (.int (α.1 3 k) :: st) h Q) : WP X M d L pc ls (.ref 3 :: st) h Q := w_gi q.1 hd hf hk rfl (by decide) (by rw [q.2.2.2.2.1 3 List.mem_cons_self]; exact kk)
theorem a_p3 (hk : fk 0 k = 0) (f : Fa D h0 h) (q : RA D h T α) (hd : decode M.2.1 pc = .ok (.putfield idx, 3)) (hf : FL M.1 idx 0 k .int false) (kk : ∀ h', Fa D h0 h' → RA D h' T (aP α 3 k v) → WP X M d L (pc + 3) ls st h' Q) : WP X M d L pc ls (.int v :: .ref 3 :: st) h Q :=
  w_pi q.1 hd hf hk rfl (by decide) (kk _ (f.pi q.2.2.1 List.mem_cons_self) (q.pi List.mem_cons_self))
theorem a_p3z (hk : fk 0 k = 0) (hz : v = 0 ∨ v = 1) (f : Fa D h0 h) (q : RA D h T α) (hd : decode M.2.1 pc = .ok (.putfield idx, 3)) (hf : FL M.1 idx 0 k .boolean false) (kk : ∀ h', Fa D h0 h' → RA D h' T (aP α 3 k v) → WP X M d L (pc + 3) ls st h' Q) : WP X M d L pc ls (.int v :: .ref 3 :: st) h Q :=
  w_pz q.1 hd hf hz hk rfl (by decide) (kk _ (f.pi q.2.2.1 List.mem_cons_self) (q.pi List.mem_cons_self))
theorem a_gD (q : RA D h T α) (hd : decode M.2.1 pc = .ok (.getfield idx, 3)) (hf : FL M.1 idx 0 4 ty f9) (kk : WP X M d L (pc + 3) ls (.ref D :: st) h Q) : WP X M d L pc ls (.ref 3 :: st) h Q := w_getR hd hf rfl rfl (q.1.lt (by decide)) q.2.2.2.1 kk
theorem a_gP (hk : fk 6 k = 0) (q : RA D h T α) (hd : decode M.2.1 pc = .ok (.getfield idx, 3)) (hf : FL M.1 idx 6 k ty f9) (kk : WP X M d L (pc + 3) ls (.int (α.1 D k) :: st) h Q) : WP X M d L pc ls (.ref D :: st) h Q := w_getI hd hf hk (D_n q.2.2.1).1 (q.1.lt (D_n q.2.2.1).2.1) (by rw [q.2.2.2.2.1 D (List.mem_cons_of_mem _ List.mem_cons_self)]; exact kk)
theorem a_pP (hk : fk 6 k = 0) (f : Fa D h0 h) (q : RA D h T α) (hd : decode M.2.1 pc = .ok (.putfield idx, 3)) (hf : FL M.1 idx 6 k .int false) (kk : ∀ h', Fa D h0 h' → RA D h' T (aP α D k v) → WP X M d L (pc + 3) ls st h' Q) : WP X M d L pc ls (.int v :: .ref D :: st) h Q :=
  w_putI hd hf hk (D_n q.2.2.1).1 (q.1.lt (D_n q.2.2.1).2.1) ⟨rfl, rfl⟩ (kk _ (f.pi q.2.2.1 (List.mem_cons_of_mem _ List.mem_cons_self)) (q.pi (List.mem_cons_of_mem _ List.mem_cons_self)))
theorem a_gE (q : RA D h T α) (hd : decode M.2.1 pc = .ok (.getfield idx, 3)) (hf : FL M.1 idx 6 0 ty f9) (kk : WP X M d L (pc + 3) ls (.ref (D + 1) :: st) h Q) : WP X M d L pc ls (.ref D :: st) h Q := w_gs q.1 hd hf (D_n q.2.2.1).2.2.2.2.2.2.1 rfl (D_n q.2.2.1).1 (D_n q.2.2.1).2.1 kk
theorem a_gG (q : RA D h T α) (hd : decode M.2.1 pc = .ok (.getfield idx, 3)) (hf : FL M.1 idx 6 1 ty f9) (kk : WP X M d L (pc + 3) ls (.ref (D + 2) :: st) h Q) : WP X M d L pc ls (.ref D :: st) h Q := w_gs q.1 hd hf (D_n q.2.2.1).2.2.2.2.2.2.2.1 rfl (D_n q.2.2.1).1 (D_n q.2.2.1).2.1 kk
theorem a_gk (hk : 1 ≤ k ∧ k < 5 ∧ fk 7 k = 0) (q : RA D h T α) (hd : decode M.2.1 pc = .ok (.getfield idx, 3)) (hf : FL M.1 idx 7 k ty f9) (kk : WP X M d L (pc + 3) ls (.int (α.2.2.1 k) :: st) h Q) : WP X M d L pc ls (.ref 12 :: st) h Q := kx_get q.2.1 hd hf hk.2.2 ⟨hk.1, hk.2.1⟩ kk
theorem a_gA (q : RA D h T α) (hd : decode M.2.1 pc = .ok (.getfield idx, 3)) (hf : FL M.1 idx 7 6 ty f9) (kk : WP X M d L (pc + 3) ls (.long α.2.2.2.1 :: st) h Q) : WP X M d L pc ls (.ref 12 :: st) h Q := kx_gA q.2.1 hd hf kk
theorem a_gB (q : RA D h T α) (hd : decode M.2.1 pc = .ok (.getfield idx, 3)) (hf : FL M.1 idx 7 7 ty f9) (kk : WP X M d L (pc + 3) ls (.long α.2.2.2.2.1 :: st) h Q) : WP X M d L pc ls (.ref 12 :: st) h Q := kx_gB q.2.1 hd hf kk
theorem a_len (q : RA D h T α) (hd : decode M.2.1 pc = .ok (.getfield idx, 3)) (hf : FL M.1 idx 1 1 ty f9) (kk : WP X M d L (pc + 3) ls (.int (nI T.length) :: st) h Q) : WP X M d L pc ls (.ref 1 :: st) h Q := kx_len q.2.1 hd hf kk
theorem a_ldP (q : RA D h T α) (hd : decode M.2.1 pc = .ok (.iaload, 1)) (hin : vp_in i 200) (kk : WP X M d L (pc + 1) ls (.int (α.1 (D + 2) i.toNatClampNeg) :: st) h Q) : WP X M d L pc ls (.int i :: .ref (D + 2) :: st) h Q := w_iaload hd (D_n q.2.2.1).2.2.2.1 (q.1.lt (D_n q.2.2.1).2.2.2.2.2.2.2.2.1) (by rw [(D_n q.2.2.1).2.2.2.2.2.1]; exact hin) (by rw [q.2.2.2.2.1 (D + 2) (by simp [aCs])]; exact kk)
theorem a_stP (f : Fa D h0 h) (q : RA D h T α) (hd : decode M.2.1 pc = .ok (.iastore, 1)) (hin : vp_in i 200) (kk : ∀ h', Fa D h0 h' → RA D h' T (aP α (D + 2) i.toNatClampNeg v) → WP X M d L (pc + 1) ls st h' Q) : WP X M d L pc ls (.int v :: .int i :: .ref (D + 2) :: st) h Q := w_iastore hd (D_n q.2.2.1).2.2.2.1 (q.1.lt (D_n q.2.2.1).2.2.2.2.2.2.2.2.1) (by rw [(D_n q.2.2.1).2.2.2.2.2.1]; exact hin) (kk _ (f.pi q.2.2.1 (by simp [aCs])) (q.pi (by simp [aCs])))
theorem a_stW (f : Fa D h0 h) (q : RA D h T α) (hd : decode M.2.1 pc = .ok (.iastore, 1)) (hin : vp_in i 4096) (kk : ∀ h', Fa D h0 h' → RA D h' T (aP α (D + 1) i.toNatClampNeg v) → WP X M d L (pc + 1) ls st h' Q) : WP X M d L pc ls (.int v :: .int i :: .ref (D + 1) :: st) h Q := w_iastore hd (D_n q.2.2.1).2.2.1 (q.1.lt (by have := (D_n q.2.2.1).2.2.2.2.2.2.2.2.1; omega)) (by rw [(D_n q.2.2.1).2.2.2.2.1]; exact hin) (kk _ (f.pi q.2.2.1 (by simp [aCs])) (q.pi (by simp [aCs])))
theorem a_ldL (hc : c = 4 ∨ c = 5) (q : RA D h T α) (hd : decode M.2.1 pc = .ok (.laload, 1)) (hin : vp_in i 200) (kk : WP X M d L (pc + 1) ls (.long (α.2.1 c i.toNatClampNeg) :: st) h Q) : WP X M d L pc ls (.int i :: .ref c :: st) h Q := by
  have e := q.2.2.2.2.2 c hc i.toNatClampNeg
  rw [← e] at kk
  rcases hc with rfl | rfl
  · exact w_laload hd rfl (q.1.lt (by decide)) hin kk
  · exact w_laload hd rfl (q.1.lt (by decide)) hin kk
theorem a_stL (hc : c = 4 ∨ c = 5) (f : Fa D h0 h) (q : RA D h T α) (hd : decode M.2.1 pc = .ok (.lastore, 1)) (hin : vp_in i 200) (kk : ∀ h', Fa D h0 h' → RA D h' T (aPl α c i.toNatClampNeg w) → WP X M d L (pc + 1) ls st h' Q) : WP X M d L pc ls (.long w :: .int i :: .ref c :: st) h Q := by
  have k2 := kk _ (f.pl hc) (q.pl hc)
  rcases hc with rfl | rfl
  · exact w_lastore hd rfl (q.1.lt (by decide)) hin k2
  · exact w_lastore hd rfl (q.1.lt (by decide)) hin k2
end
theorem aP_s {α : AK} {c k : Nat} {v : Int32} : (aP α c k v).1 c k = v := uP_s
theorem aP_k {α : AK} {c k j : Nat} {v : Int32} (h : j ≠ k) : (aP α c k v).1 c j = α.1 c j := uP_k h
theorem aP_c {α : AK} {c k e j : Nat} {v : Int32} (h : e ≠ c) : (aP α c k v).1 e j = α.1 e j := uP_c h
def faS (α : AK) (n p : Int32) : AK := if α.1 3 7 = 0 then aP (aP α 3 7 n) 3 8 p else α
set_option maxRecDepth 20000 in
set_option maxHeartbeats 4000000 in
/-- fail() -/
theorem T_fail {X : Nat × (Nat → Int32)} {h0 h : PH} {Q : Option Value → PH → Prop} {T : List Int32} {α : AK} {D : Nat} {n p : Int32} (f : Fa D h0 h) (q : RA D h T α) (k : ∀ h', Fa D h0 h' → RA D h' T (faS α n p) → Q none h') : WP X mX0_fail 0 0 0 (en 3 [.ref 3, .int n, .int p]) [] h Q := by
  refine w_aload_n dX0_fail_0 rfl rfl ?_
  refine a_g3 (k := 7) rfl q dX0_fail_1 fX0_45 ?_
  refine w_if_ne (tgt := 17) dX0_fail_4 (by decide) (fun c_4 => ?_) (fun c_4 => ?_)
  · refine w_vret dX0_fail_17 ?_
    rw [show faS α n p = α from if_neg c_4] at k; exact k _ f q
  · refine w_aload_n dX0_fail_7 rfl rfl ?_
    refine w_iload_n dX0_fail_8 rfl rfl ?_
    refine a_p3 (k := 7) rfl f q dX0_fail_9 fX0_45 (fun h1 f1 q1 => ?_)
    refine w_aload_n dX0_fail_12 rfl rfl ?_
    refine w_iload_n dX0_fail_13 rfl rfl ?_
    refine a_p3 (k := 8) rfl f1 q1 dX0_fail_14 fX0_28 (fun h2 f2 q2 => ?_)
    refine w_vret dX0_fail_17 ?_
    rw [show faS α n p = _ from if_pos c_4] at k; exact k _ f2 q2

theorem roS_e {o n m : Nat} (ho : o ≤ 65535) (hn : n ≤ 4096) (hm : m ≤ 5000) : (nI n + nI m ≤ 4096 ∧ nI o + nI n + nI m ≤ 65536) ↔ roS o n m = true := by
  unfold roS
  rw [nI_add, nI_add, nI_add, show (4096 : Int32) = nI 4096 from rfl, show (65536 : Int32) = nI 65536 from rfl, nI_leI (by omega) (by decide), nI_leI (by omega) (by decide), Bool.and_eq_true, decide_eq_true_eq, decide_eq_true_eq]
set_option maxRecDepth 20000 in
set_option maxHeartbeats 4000000 in
/-- hasRoom() -/
theorem T_room {X : Nat × (Nat → Int32)} {h : PH} {Q : Option Value → PH → Prop} {T : List Int32} {α : AK} {D : Nat} {o n m : Nat} (e2 : α.1 D 2 = nI n) (e4 : α.1 D 4 = nI o) (ho : o ≤ 65535) (hn9 : n ≤ 4096) (hm : m ≤ 5000) (q : RA D h T α) (k : Q (some (.int (if roS o n m = true then 1 else 0))) h) : WP X mX7_hasRoom 0 0 0 (en 2 [.ref D, .int (nI m)]) [] h Q := by
  refine w_aload_n dX7_hasRoom_0 rfl rfl ?_
  refine a_gP (k := 2) rfl q dX7_hasRoom_1 fX7_18 ?_
  refine w_iload_n dX7_hasRoom_4 rfl rfl ?_
  refine w_iadd dX7_hasRoom_5 ?_
  refine w_sipush dX7_hasRoom_6 (v := 4096) (by decide) ?_
  refine w_icmp_gt (tgt := 32) dX7_hasRoom_9 (by decide) (fun c_9 => ?_) (fun c_9 => ?_)
  · refine w_iconst dX7_hasRoom_32 (v := 0) (by decide) ?_
    refine w_iret dX7_hasRoom_33 (fun _ e => by cases e; decide) ?_
    rw [e2] at c_9
    rw [if_neg (fun e => absurd ((roS_e ho hn9 hm).mpr e).1 (Int32.not_le.mpr c_9))] at k; exact k
  · refine w_aload_n dX7_hasRoom_12 rfl rfl ?_
    refine a_gP (k := 4) rfl q dX7_hasRoom_13 fX7_22 ?_
    refine w_aload_n dX7_hasRoom_16 rfl rfl ?_
    refine a_gP (k := 2) rfl q dX7_hasRoom_17 fX7_18 ?_
    refine w_iadd dX7_hasRoom_20 ?_
    refine w_iload_n dX7_hasRoom_21 rfl rfl ?_
    refine w_iadd dX7_hasRoom_22 ?_
    refine w_ldc dX7_hasRoom_23 kX7_25 ?_
    refine w_icmp_gt (tgt := 32) dX7_hasRoom_25 (by decide) (fun c_25 => ?_) (fun c_25 => ?_)
    · refine w_iconst dX7_hasRoom_32 (v := 0) (by decide) ?_
      refine w_iret dX7_hasRoom_33 (fun _ e => by cases e; decide) ?_
      rw [e2, e4] at c_25
      rw [if_neg (fun e => absurd ((roS_e ho hn9 hm).mpr e).2 (Int32.not_le.mpr c_25))] at k; exact k
    · refine w_iconst dX7_hasRoom_28 (v := 1) (by decide) ?_
      refine w_goto (tgt := 33) dX7_hasRoom_29 (by decide) ?_
      refine w_iret dX7_hasRoom_33 (fun _ e => by cases e; decide) ?_
      rw [e2] at c_9 c_25
      rw [e4] at c_25
      rw [if_pos ((roS_e ho hn9 hm).mp ⟨Int32.not_lt.mp c_9, Int32.not_lt.mp c_25⟩)] at k; exact k

set_option maxRecDepth 20000 in
set_option maxHeartbeats 4000000 in
/-- here() -/
theorem T_here {X : Nat × (Nat → Int32)} {h : PH} {Q : Option Value → PH → Prop} {T : List Int32} {α : AK} {D : Nat} (q : RA D h T α) (k : Q (some (.int (α.1 D 4 + α.1 D 2))) h) : WP X mX7_here 0 0 0 (en 1 [.ref D]) [] h Q := by
  refine w_aload_n dX7_here_0 rfl rfl ?_
  refine a_gP (k := 4) rfl q dX7_here_1 fX7_22 ?_
  refine w_aload_n dX7_here_4 rfl rfl ?_
  refine a_gP (k := 2) rfl q dX7_here_5 fX7_18 ?_
  refine w_iadd dX7_here_8 ?_
  refine w_iret dX7_here_9 (fun _ e => by cases e; rfl) ?_
  exact k

def adS (α : AK) (D n : Nat) (w : Int32) : AK := if n < 4096 then aP (aP α (D + 1) n (w &&& 65535)) D 2 (nI (n + 1)) else α
set_option maxRecDepth 20000 in
set_option maxHeartbeats 4000000 in
/-- add() -/
theorem T_prad {X : Nat × (Nat → Int32)} {h0 h : PH} {Q : Option Value → PH → Prop} {T : List Int32} {α : AK} {D : Nat} {n : Nat} {w : Int32} (e2 : α.1 D 2 = nI n) (hn9 : n ≤ 4096) (f : Fa D h0 h) (q : RA D h T α) (k : ∀ h', Fa D h0 h' → RA D h' T (adS α D n w) → Q none h') : WP X mX7_add 0 0 0 (en 2 [.ref D, .int w]) [] h Q := by
  refine w_aload_n dX7_add_0 rfl rfl ?_
  refine a_gP (k := 2) rfl q dX7_add_1 fX7_18 ?_
  refine w_sipush dX7_add_4 (v := 4096) (by decide) ?_
  refine w_icmp_ge (tgt := 33) dX7_add_7 (by decide) (fun c_7 => ?_) (fun c_7 => ?_)
  · rw [e2, show (4096 : Int32) = nI 4096 from rfl, nI_leI (by decide) (by omega)] at c_7
    refine w_vret dX7_add_33 ?_
    rw [show adS α D n w = α from if_neg (by omega)] at k; exact k _ f q
  · rw [e2, show (4096 : Int32) = nI 4096 from rfl, nI_leI (by decide) (by omega)] at c_7
    refine w_aload_n dX7_add_10 rfl rfl ?_
    refine a_gE q dX7_add_11 fX7_9 ?_
    refine w_aload_n dX7_add_14 rfl rfl ?_
    refine a_gP (k := 2) rfl q dX7_add_15 fX7_18 ?_
    refine w_iload_n dX7_add_18 rfl rfl ?_
    refine w_ldc dX7_add_19 kX7_26 ?_
    refine w_iand dX7_add_21 ?_
    refine a_stW f q dX7_add_22 (by rw [e2]; exact vp_in_nI (show n < 4096 by omega) (by decide)) (fun h1 f1 q1 => ?_)
    refine w_aload_n dX7_add_23 rfl rfl ?_
    refine w_dup dX7_add_24 rfl ?_
    refine a_gP (k := 2) rfl q1 dX7_add_25 fX7_18 ?_
    refine w_iconst dX7_add_28 (v := 1) (by decide) ?_
    refine w_iadd dX7_add_29 ?_
    refine a_pP (k := 2) rfl f1 q1 dX7_add_30 fX7_18 (fun h2 f2 q2 => ?_)
    refine w_vret dX7_add_33 ?_
    rw [show adS α D n w = _ from if_pos (by omega)] at k
    have e1 : (aP α (D + 1) (α.1 D 2).toNatClampNeg (w &&& 65535)).1 D 2 = nI n := (uP_c (by omega)).trans e2
    rw [e1, nI_1, e2, nI_clamp (by omega)] at q2
    exact k _ f2 q2

