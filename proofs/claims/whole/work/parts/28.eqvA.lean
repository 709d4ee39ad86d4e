/-! THE TWO MACHINES ARE ALIKE: the relation, words of 16 bits -/
theorem W16.and {x : Int32} (m : Int32) {n : Nat} (hn : n < 65536) (e : m = nI n) : W16 (x &&& m) := by
  have h1 : x &&& m = (x &&& m) &&& 65535 := by
    rw [Int32.and_assoc]
    congr 1
    subst e
    exact (W16.c ⟨n, hn, rfl⟩).symm
  rw [h1]; exact w_and _
theorem W16.or {x y : Int32} (hx : W16 x) (hy : W16 y) : W16 (x ||| y) := by
  have e : x ||| y = (x ||| y) &&& 65535 := by
    have h1 := hx.c
    have h2 := hy.c
    apply Int32.toBitVec_inj.mp
    have h1 := congrArg Int32.toBitVec h1
    have h2 := congrArg Int32.toBitVec h2
    rw [Int32.toBitVec_and] at h1 h2
    rw [Int32.toBitVec_and, Int32.toBitVec_or]
    generalize x.toBitVec = a at *
    generalize y.toBitVec = b at *
    generalize (65535 : Int32).toBitVec = c at *
    apply BitVec.eq_of_getLsbD_eq
    intro i hi
    have h1 := congrArg (fun z => z.getLsbD i) h1
    have h2 := congrArg (fun z => z.getLsbD i) h2
    simp only [BitVec.getLsbD_and, BitVec.getLsbD_or] at *
    revert h1 h2
    cases a.getLsbD i <;> cases b.getLsbD i <;> cases c.getLsbD i <;> simp
  rw [e]; exact w_and _
theorem w_n {n : Nat} (h : n < 65536) : W16 (nI n) := ⟨n, h, rfl⟩
theorem w_0 : W16 0 := ⟨0, by decide, rfl⟩
theorem W16.ixe {x : Int32} (h : W16 x) : x.toNatClampNeg = ix x := by
  obtain ⟨n, hn, rfl⟩ := h
  rw [nI_clamp (by omega)]
  unfold ix
  rw [pk_tn (by omega), Nat.mod_eq_of_lt hn]
theorem W16.lt {x : Int32} (h : W16 x) : x.toNatClampNeg < 65536 := by
  obtain ⟨n, hn, rfl⟩ := h
  rw [nI_clamp (by omega)]; exact hn
theorem W16.vp {x : Int32} (h : W16 x) : vp_in x 65536 := by
  have := pk_andIn x (m := 65535) 16 (by decide) (by decide)
  rw [h.c] at this; exact this
def B8 (x : Int32) : Prop := ∃ n, n < 256 ∧ x = nI n
theorem B8.w {x : Int32} (h : B8 x) : W16 x := by
  obtain ⟨n, hn, e⟩ := h; exact ⟨n, by omega, e⟩
theorem B8.c {x : Int32} (h : B8 x) : x &&& 255 = x := by
  obtain ⟨n, hn, rfl⟩ := h
  rw [pk_andN (by omega) 8 (by decide), Nat.mod_eq_of_lt hn]
theorem b_and (x : Int32) : B8 (x &&& 255) := by
  obtain ⟨j, h, e⟩ := pk_andE x (m := 255) 8 (by decide)
  exact ⟨j, h, e⟩
theorem W16.hi {x : Int32} (h : W16 x) : B8 (x >>> ((8 : Int32) &&& 31)) := by
  obtain ⟨n, hn, rfl⟩ := h
  exact ⟨n / 2 ^ 8, by omega, pk_shrN (by omega) _ 8 (by decide)⟩
def b14v (u : Int32) : Int32 := if u = 0 then 0 else 16384
/-- the class's machine σ and the reference's τ are alike; STEPS by d apart, x the exception so far, y isFault -/
def Rl (d x y : Int32) (σ τ : MS) : Prop := (∀ k, k < 20 → k ≠ 14 → k ≠ 16 → σ.1 k = τ.1 k) ∧ σ.1 14 = b14v (τ.1 14) ∧ (∀ a, a < 65536 → σ.2.1 a = τ.2.1 a) ∧ σ.2.2.1 = τ.2.2.1 ∧ σ.2.2.2 = τ.2.2.2 ∧ τ.1 16 = σ.1 16 + d ∧ σ.1 20 = x ∧ τ.1 21 = y
def Wf (τ : MS) : Prop := (∀ k, k < 14 → W16 (τ.1 k)) ∧ (∀ a, a < 65536 → W16 (τ.2.1 a)) ∧ ∀ x ∈ τ.2.2.1, B8 x
def Rw (d x y : Int32) (σ τ : MS) : Prop := Rl d x y σ τ ∧ Wf τ
section RWS
variable {d x y : Int32} {σ τ : MS} {k : Nat} {v : Int32}
theorem Rw.g (q : Rw d x y σ τ) (k : Nat) (h1 : k < 20 ∧ k ≠ 14 ∧ k ≠ 16 := by decide) : σ.1 k = τ.1 k := q.1.1 k h1.1 h1.2.1 h1.2.2
theorem Rw.w (q : Rw d x y σ τ) (k : Nat) (h : k < 14 := by decide) : W16 (τ.1 k) := q.2.1 k h
theorem Rw.G (q : Rw d x y σ τ) (h1 : k < 20 ∧ k ≠ 14 ∧ k ≠ 16) (hv : k < 14 → W16 v) : Rw d x y (sG σ k v) (sG τ k v) := by
  obtain ⟨⟨a1, a2, a3, a4, a5, a6, a7, a8⟩, b1, b2, b3⟩ := q
  refine ⟨⟨fun j h1 h2 h3 => ?_, ?_, a3, a4, a5, ?_, ?_, ?_⟩, fun j hj => ?_, b2, b3⟩
  · show va_up σ.1 k v j = va_up τ.1 k v j
    rw [va_upv, va_upv]
    by_cases c : j = k
    · rw [if_pos c, if_pos c]
    · rw [if_neg c, if_neg c]; exact a1 j h1 h2 h3
  · rw [sG_o (by omega), sG_o (by omega)]; exact a2
  · rw [sG_o (by omega), sG_o (by omega)]; exact a6
  · rw [sG_o (by omega)]; exact a7
  · rw [sG_o (by omega)]; exact a8
  · show W16 (va_up τ.1 k v j)
    rw [va_upv]
    by_cases c : j = k
    · rw [if_pos c]; exact hv (c ▸ hj)
    · rw [if_neg c]; exact b1 j hj
theorem Rw.C (q : Rw d x y σ τ) : Rw d v y (sG σ 20 v) τ := by
  obtain ⟨⟨a1, a2, a3, a4, a5, a6, a7, a8⟩, b⟩ := q
  exact ⟨⟨fun j h1 h2 h3 => by rw [sG_o (by omega)]; exact a1 j h1 h2 h3, by rw [sG_o (by omega)]; exact a2, a3, a4, a5, a6, sG_s, a8⟩, b⟩
theorem Rw.M (q : Rw d x y σ τ) : Rw d x v σ (sG τ 21 v) := by
  obtain ⟨⟨a1, a2, a3, a4, a5, a6, a7, a8⟩, b1, b2, b3⟩ := q
  exact ⟨⟨fun j h1 h2 h3 => by rw [sG_o (by omega)]; exact a1 j h1 h2 h3, by rw [sG_o (by omega)]; exact a2, a3, a4, a5, a6, a7, sG_s⟩, fun j hj => by rw [sG_o (by omega)]; exact b1 j hj, b2, b3⟩
theorem Rw.M16 (q : Rw d x y σ τ) : Rw (d + 1) x y σ (sG τ 16 (τ.1 16 + 1)) := by
  obtain ⟨⟨a1, a2, a3, a4, a5, a6, a7, a8⟩, b1, b2, b3⟩ := q
  exact ⟨⟨fun j h1 h2 h3 => by rw [sG_o (by omega)]; exact a1 j h1 h2 h3, by rw [sG_o (by omega)]; exact a2, a3, a4, a5, by rw [sG_s, a6, Int32.add_assoc], a7, a8⟩, fun j hj => by rw [sG_o (by omega)]; exact b1 j hj, b2, b3⟩
theorem Rw.C16 (q : Rw d x y σ τ) : Rw 0 x y (sG σ 16 (σ.1 16 + d)) τ := by
  obtain ⟨⟨a1, a2, a3, a4, a5, a6, a7, a8⟩, b⟩ := q
  exact ⟨⟨fun j h1 h2 h3 => by rw [sG_o (by omega)]; exact a1 j h1 h2 h3, by rw [sG_o (by omega)]; exact a2, a3, a4, a5, by rw [sG_s, a6, Int32.add_zero], by rw [sG_o (by omega)]; exact a7, a8⟩, b⟩
theorem Rw.b14 (q : Rw d x y σ τ) {u : Int32} (h : v = b14v u) : Rw d x y (sG σ 14 v) (sG τ 14 u) := by
  obtain ⟨⟨a1, a2, a3, a4, a5⟩, b1, b2, b3⟩ := q
  exact ⟨⟨fun j h1 h2 h3 => by rw [sG_o h2, sG_o h2]; exact a1 j h1 h2 h3, by rw [sG_s, sG_s]; exact h, a3, a4, a5⟩, fun j hj => by rw [sG_o (by omega)]; exact b1 j hj, b2, b3⟩
theorem Rw.K (q : Rw d x y σ τ) {ks : List Int32} (h : ∀ x ∈ ks, B8 x) : Rw d x y (sK σ ks) (sK τ ks) := by
  obtain ⟨⟨a1, a2, a3, a4, a5⟩, b1, b2, b3⟩ := q
  exact ⟨⟨a1, a2, a3, rfl, a5⟩, b1, b2, h⟩
theorem Rw.P (q : Rw d x y σ τ) {b c : Int32} (h : b &&& 255 = c) : Rw d x y (sP σ b) (sPm τ c) := by
  obtain ⟨⟨a1, a2, a3, a4, a5, a6⟩, b1, b2, b3⟩ := q
  refine ⟨⟨fun j h1 h2 h3 => ?_, ?_, a3, a4, ?_, a6⟩, fun j hj => ?_, b2, b3⟩
  · show va_up σ.1 15 (σ.1 15 + 1) j = va_up τ.1 15 (τ.1 15 + 1) j
    rw [va_upv, va_upv]
    by_cases c : j = 15
    · rw [if_pos c, if_pos c, a1 15 (by decide) (by decide) (by decide)]
    · rw [if_neg c, if_neg c]; exact a1 j h1 h2 h3
  · exact a2
  · show addP σ.2.2.2 (b &&& 255) = addP τ.2.2.2 c
    rw [h, a5]
  · show W16 (va_up τ.1 15 (τ.1 15 + 1) j)
    rw [va_upv, if_neg (by omega)]; exact b1 j hj
theorem Rw.mem (q : Rw d x y σ τ) (hv : W16 v) : Rw d x y (sM σ k v) (sM τ k v) := by
  obtain ⟨⟨a1, a2, a3, a4, a5⟩, b1, b2, b3⟩ := q
  refine ⟨⟨a1, a2, fun a ha => ?_, a4, a5⟩, b1, fun a ha => ?_, b3⟩
  · show va_up σ.2.1 k v a = va_up τ.2.1 k v a
    rw [va_upv, va_upv]
    by_cases c : a = k
    · rw [if_pos c, if_pos c]
    · rw [if_neg c, if_neg c]; exact a3 a ha
  · show W16 (va_up τ.2.1 k v a)
    rw [va_upv]
    by_cases c : a = k
    · rw [if_pos c]; exact hv
    · rw [if_neg c]; exact b2 a ha
theorem Rw.tl (q : Rw d x y σ τ) : ∀ x ∈ τ.2.2.1.tail, B8 x := fun x hx => q.2.2.2 x (List.mem_of_mem_tail hx)
theorem Rw.da (q : Rw d x y σ τ) : daS σ = daS τ ∧ W16 (daS τ) := by
  unfold daS
  rw [q.1.2.2.2.1, q.g 13]
  cases e : τ.2.2.1 with
  | nil => exact ⟨rfl, q.w 13⟩
  | cons x t => exact ⟨rfl, (q.2.2.2 x (by rw [e]; exact List.mem_cons_self)).w⟩
theorem Rw.look (q : Rw d x y σ τ) {a : Int32} (ha : W16 a) : lookS σ a = mlk τ a ∧ W16 (mlk τ a) := by
  unfold lookS mlk
  by_cases c1 : a = 65024
  · rw [if_pos c1, if_pos c1]
    unfold stS
    rw [q.1.2.2.2.1, q.1.2.1]
    unfold b14v
    by_cases d : τ.2.2.1 = [] <;> by_cases d2 : τ.1 14 = 0 <;> simp only [d, d2, if_true, if_false] <;> refine ⟨by decide, ?_⟩
    · exact ⟨0, by decide, by decide⟩
    · exact ⟨16384, by decide, by decide⟩
    · exact ⟨32768, by decide, by decide⟩
    · exact ⟨49152, by decide, by decide⟩
  rw [if_neg c1, if_neg c1]
  by_cases c2 : a = 65026
  · rw [if_pos c2, if_pos c2]; exact q.da
  rw [if_neg c2, if_neg c2]
  by_cases c3 : a = 65028
  · rw [if_pos c3, if_pos c3]; exact ⟨rfl, 32768, by decide, by decide⟩
  rw [if_neg c3, if_neg c3]
  by_cases c5 : a = 65534
  · have : ¬ a = 65030 := by rw [c5]; decide
    rw [if_neg this, if_pos c5, if_pos c5]; exact ⟨rfl, 32768, by decide, by decide⟩
  rw [if_neg c5, if_neg c5]
  by_cases c4 : a = 65030
  · rw [if_pos c4, if_pos c4]; exact ⟨rfl, w_0⟩
  rw [if_neg c4, if_neg c4, ← ha.ixe]
  exact ⟨q.1.2.2.1 _ ha.lt, q.2.2.1 _ ha.lt⟩
theorem Rw.usr (q : Rw d x y σ τ) : (σ.1 9 &&& 32768 = 0) ↔ τ.1 9 < 32768 := by rw [q.g 9]; exact (q.w 9).user
theorem Rw.bar (q : Rw d x y σ τ) {p : Int32} : barS σ (p &&& 65535) ↔ outM τ p := by
  unfold barS outM
  rw [q.usr, Int32.not_lt (a := p &&& 65535)]
end RWS
/-- .. within a STEP: a FAULT so far, or none -/
def Rs (d : Int32) (σ τ : MS) : Prop := Rw d (-1) 0 σ τ ∨ Rw d 2 1 σ τ
section RSS
variable {d x9 y : Int32} {σ τ : MS} {k : Nat} {v : Int32}
theorem mgt_ne {p : Int32} (h : ¬ p &&& 65535 = 65026) : mgt τ p = τ := by unfold mgt; rw [if_neg h]
theorem mgt_21 {p : Int32} : (mgt τ p).1 21 = τ.1 21 := by
  unfold mgt
  split
  · split <;> rfl
  · rfl
theorem Rw.get (q : Rw d x9 y σ τ) {p : Int32} : Rw d x9 y (if p &&& 65535 = 65026 then sK (sG σ 13 (lookS σ (p &&& 65535))) σ.2.2.1.tail else σ) (mgt τ p) := by
  unfold mgt
  by_cases c : p &&& 65535 = 65026
  · have hl := q.look (w_and p)
    rw [if_pos c, if_pos c, hl.1, q.1.2.2.2.1]
    cases e : τ.2.2.1 with
    | nil =>
      have r := (q.G (k := 13) (v := mlk τ (p &&& 65535)) (by decide) (fun _ => hl.2)).K (ks := []) (fun x hx => by cases hx)
      have e2 : sK (sG τ 13 (mlk τ (p &&& 65535))) [] = sG τ 13 (mlk τ (p &&& 65535)) := by
        unfold sK sG; simp only [e]; rw [← e]
      rw [e2] at r; exact r
    | cons x t =>
      have hx : mlk τ (p &&& 65535) = x := by
        unfold mlk; rw [if_neg (by rw [c]; decide), if_pos c]; unfold daS; rw [e]
      have r := (q.G (k := 13) (v := mlk τ (p &&& 65535)) (by decide) (fun _ => hl.2)).K (ks := t) (fun y hy => q.2.2.2 y (by rw [e]; exact List.mem_cons_of_mem _ hy))
      rw [hx] at r ⊢
      have e2 : sG (sK (sG τ 13 x) t) 13 x = sK (sG τ 13 x) t := by
        unfold sK sG
        congr 1
        funext j
        show va_up (va_up τ.1 13 x) 13 x j = va_up τ.1 13 x j
        simp only [va_upv]
        split <;> rfl
      show Rw d x9 y (sK (sG σ 13 x) t) (sG (sK (sG τ 13 x) t) 13 x)
      rw [e2]; exact r
  · rw [if_neg c, if_neg c]; exact q
theorem Rw.fet (q : Rw d (-1) 0 σ τ) (p : Int32) : Rs d (fetS σ (p &&& 65535)) (mrd τ p) ∧ fetV σ (p &&& 65535) = mrv τ p ∧ W16 (mrv τ p) := by
  have h0 : τ.1 21 = 0 := q.1.2.2.2.2.2.2.2
  unfold fetS fetV mrd mrv
  by_cases c : outM τ p
  · rw [ifp_t (q.bar.mpr c), ifp_t (q.bar.mpr c), fl1 h0 c]
    exact ⟨Or.inr q.C.M, rfl, w_0⟩
  · rw [ifp_f (fun z => c (q.bar.mp z)), ifp_f (fun z => c (q.bar.mp z)), fl0 h0 c]
    have e1 : mlk (sG τ 21 0) (p &&& 65535) = mlk τ (p &&& 65535) := rfl
    have r := (q.M (v := 0)).get (p := p)
    rw [if_pos rfl, if_pos rfl, e1]
    exact ⟨Or.inl r, (q.look (w_and p)).1, (q.look (w_and p)).2⟩
theorem Rw.skip (q : Rw d 2 1 σ τ) (p : Int32) : Rw d 2 1 σ (mrd τ p) := by
  unfold mrd
  rw [fl2 (by rw [q.1.2.2.2.2.2.2.2]; decide), if_neg (by decide)]
  exact q.M
end RSS
