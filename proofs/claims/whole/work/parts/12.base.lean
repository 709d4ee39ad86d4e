/-! SMALL LAWS for the walks: indexes, what stays, reads over writes -/
theorem vin {i : Int32} {n : Nat} (h : (!(decide (i < 0)) && decide (i.toNatClampNeg < n)) = true) : vp_in i n := by
  simp only [Bool.and_eq_true, Bool.not_eq_true', decide_eq_false_iff_not, decide_eq_true_eq] at h
  rintro (h1 | h1)
  · exact h.1 h1
  · omega
section SB
variable {h : PH} {a b k j : Nat}
theorem St.i {v : Int32} (S : St h) : St (sI h a k v) := S
theorem St.l {v : Int64} (S : St h) : St (sL h a k v) := S
theorem St.r {v : Option Nat} (S : St h) (hm : ∀ c, (a, k, c) ∉ stR) : St (sR h a k v) := by
  refine ⟨S.1, S.2.1, fun q hq => ?_⟩
  show up2 (hR h) a k v q.1 q.2.1 = _
  unfold up2
  by_cases e : q.1 = a
  · by_cases e2 : q.2.1 = k
    · exact absurd (show (a, k, q.2.2) ∈ stR by rw [← e, ← e2]; exact hq) (hm _)
    · rw [if_pos e, if_neg e2]; exact S.2.2 q hq
  · rw [if_neg e]; exact S.2.2 q hq
theorem rI (h : PH) (a k : Nat) (v : Int32) (b j : Nat) : hI (sI h a k v) b j = if b = a then (if j = k then v else hI h b j) else hI h b j := rfl
theorem rI_s {v : Int32} : hI (sI h a k v) a k = v := by rw [rI, if_pos rfl, if_pos rfl]
theorem rI_k {v : Int32} (e : j ≠ k) : hI (sI h a k v) a j = hI h a j := by rw [rI, if_pos rfl, if_neg e]
theorem rI_a {v : Int32} (e : b ≠ a) : hI (sI h a k v) b j = hI h b j := by rw [rI, if_neg e]
theorem rL (h : PH) (a k : Nat) (v : Int64) (b j : Nat) : hL (sL h a k v) b j = if b = a then (if j = k then v else hL h b j) else hL h b j := rfl
theorem rR (h : PH) (a k : Nat) (v : Option Nat) (b j : Nat) : hR (sR h a k v) b j = if b = a then (if j = k then v else hR h b j) else hR h b j := rfl
theorem rIL {v : Int64} : hI (sL h a k v) = hI h := rfl
theorem rIR {v : Option Nat} : hI (sR h a k v) = hI h := rfl
theorem rLI {v : Int32} : hL (sI h a k v) = hL h := rfl
theorem rLR {v : Option Nat} : hL (sR h a k v) = hL h := rfl
theorem rRI {v : Int32} : hR (sI h a k v) = hR h := rfl
theorem rRL {v : Int64} : hR (sL h a k v) = hR h := rfl
end SB
/-- nothing is made, no reference changes; ints and longs change in the cells of l alone -/
def Sm (l : List Nat) (h h' : PH) : Prop := hn h' = hn h ∧ hc h' = hc h ∧ hs h' = hs h ∧ hR h' = hR h ∧ ∀ a, a ∉ l → hI h' a = hI h a ∧ hL h' a = hL h a
theorem Sm.rf {l : List Nat} {h : PH} : Sm l h h := ⟨rfl, rfl, rfl, rfl, fun _ _ => ⟨rfl, rfl⟩⟩
theorem Sm.i {l : List Nat} {h h' : PH} (q : Sm l h h') {a k : Nat} {v : Int32} (ha : a ∈ l) : Sm l h (sI h' a k v) := ⟨q.1, q.2.1, q.2.2.1, q.2.2.2.1, fun b hb => ⟨by
  rw [← (q.2.2.2.2 b hb).1]; exact up2_o _ _ _ (fun e => hb (e ▸ ha)), (q.2.2.2.2 b hb).2⟩⟩
theorem Sm.l {l : List Nat} {h h' : PH} (q : Sm l h h') {a k : Nat} {v : Int64} (ha : a ∈ l) : Sm l h (sL h' a k v) := ⟨q.1, q.2.1, q.2.2.1, q.2.2.2.1, fun b hb => ⟨(q.2.2.2.2 b hb).1, by
  rw [← (q.2.2.2.2 b hb).2]; exact up2_o _ _ _ (fun e => hb (e ▸ ha))⟩⟩
theorem Sm.tr {l : List Nat} {h h1 h2 : PH} (q : Sm l h h1) (r : Sm l h1 h2) : Sm l h h2 := ⟨r.1.trans q.1, r.2.1.trans q.2.1, r.2.2.1.trans q.2.2.1, r.2.2.2.1.trans q.2.2.2.1, fun a ha => ⟨(r.2.2.2.2 a ha).1.trans (q.2.2.2.2 a ha).1, (r.2.2.2.2 a ha).2.trans (q.2.2.2.2 a ha).2⟩⟩
theorem Sm.wd {l l' : List Nat} {h h' : PH} (q : Sm l h h') (hl : ∀ a ∈ l, a ∈ l') : Sm l' h h' := ⟨q.1, q.2.1, q.2.2.1, q.2.2.2.1, fun a ha => q.2.2.2.2 a (fun z => ha (hl a z))⟩
theorem Sm.st {l : List Nat} {h h' : PH} (q : Sm l h h') (S : St h) : St h' := ⟨by rw [q.1]; exact S.1, by rw [q.1]; exact S.2.1, by rw [q.2.2.2.1]; exact S.2.2⟩
theorem Sm.I {l : List Nat} {h h' : PH} (q : Sm l h h') {a : Nat} (ha : a ∉ l) : hI h' a = hI h a := (q.2.2.2.2 a ha).1
