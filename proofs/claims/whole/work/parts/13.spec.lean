/-! THE MACHINE AS NUMBERS: scalars (0 to 7 R0 .., 8 PC, 9 PSR, 10 SUPER, 11 USER, 12 state, 13 what was read at KBDR, 14 bit 14, 15 PRINTED in all, 16 STEPS, 17 interrupts, 18 exceptions, 19 TRAPS, 20 the exception of this STEP or -1), memory, keys, what is kept of what was PRINTED -/
abbrev MS : Type := (Nat → Int32) × (Nat → Int32) × List Int32 × List Int32
def sG (σ : MS) (k : Nat) (v : Int32) : MS := (va_up σ.1 k v, σ.2)
def sM (σ : MS) (a : Nat) (v : Int32) : MS := (σ.1, va_up σ.2.1 a v, σ.2.2)
def sK (σ : MS) (ks : List Int32) : MS := (σ.1, σ.2.1, ks, σ.2.2.2)
def addP (ks : List Int32) (b : Int32) : List Int32 := if ks.length < 4000 then ks ++ [b] else ks
def sP (σ : MS) (b : Int32) : MS := (va_up σ.1 15 (σ.1 15 + 1), σ.2.1, σ.2.2.1, addP σ.2.2.2 (b &&& 255))
/-- a place by its lowest 16 bits -/
def ix (p : Int32) : Nat := p.toBitVec.toNat % 65536
theorem ix_lt (p : Int32) : ix p < 65536 := Nat.mod_lt _ (by decide)
theorem sh8 (x : Int32) : (x >>> ((8 : Int32) &&& 31)) &&& 255 = nI (ix x / 256) := by
  rw [pk_and _ 8 (by decide)]
  congr 1
  have h1 : (x >>> ((8 : Int32) &&& 31)).toBitVec = x.toBitVec.sshiftRight 8 := by
    rw [Int32.toBitVec_shiftRight]; rfl
  rw [h1]
  unfold ix
  apply Nat.eq_of_testBit_eq
  intro i
  rw [Nat.testBit_mod_two_pow, show (256 : Nat) = 2 ^ 8 from rfl, show (65536 : Nat) = 2 ^ 16 from rfl, Nat.testBit_div_two_pow, Nat.testBit_mod_two_pow, BitVec.testBit_toNat, BitVec.testBit_toNat, BitVec.getLsbD_sshiftRight]
  by_cases hi : i < 8
  · have e1 : i < 32 := by omega
    have e2 : 8 + i < 32 := by omega
    have e3 : i + 8 < 16 := by omega
    have e4 : ¬ 32 ≤ i := by omega
    have e5 : i + 8 < 32 := by omega
    simp [hi, e3, e4, e5, Nat.add_comm 8 i]
  · have e3 : ¬ (i + 8 < 16) := by omega
    simp [hi, e3]
theorem and8 (x : Int32) : x &&& 255 = nI (ix x % 256) := by
  rw [pk_and _ 8 (by decide)]
  congr 1
  unfold ix
  omega
theorem nI_le0 {n : Nat} (h : n < 2 ^ 31) : nI n ≤ 0 ↔ n = 0 := by
  rw [← nI_0, nI_leI h (by decide)]; omega
/-- the pages, and what they hold -/
def memAt (h : PH) (a : Nat) : Int32 := match hR h 17 (a / 256) with
  | none => 0
  | some b => hI h b (a % 256)
def nn (h : PH) : Nat := ((List.range 256).filter (fun p => (hR h 17 p).isNone)).length
def PgC (h : PH) (me : Nat → Int32) : Prop := (∀ p b, p < 256 → hR h 17 p = some b → 40 ≤ b ∧ b < hn h) ∧ (∀ p q b, p < 256 → q < 256 → hR h 17 p = some b → hR h 17 q = some b → p = q) ∧ hn h + nn h = 296 ∧ ∀ a, a < 65536 → memAt h a = me a
def KbC (h : PH) (ks : List Int32) : Prop := ∃ f, f < 100 ∧ hI h 18 1 = nI f ∧ hI h 18 2 = nI ks.length ∧ ks.length ≤ 100 ∧ ∀ (i : Nat) (v : Int32), ks[i]? = some v → hI h 19 ((f + i) % 100) = v
def PrC (h : PH) (ps : List Int32) : Prop := hI h 20 1 = nI ps.length ∧ ps.length ≤ 4000 ∧ ∀ (i : Nat) (v : Int32), ps[i]? = some v → hI h 21 i &&& 255 = v
/-- the class's machine is σ -/
def RC (h : PH) (σ : MS) : Prop := St h ∧ PgC h σ.2.1 ∧ KbC h σ.2.2.1 ∧ PrC h σ.2.2.2 ∧ (∀ k, k < 12 → hI h 14 k = σ.1 k) ∧ (∀ k, k < 4 → hI h 15 k = σ.1 (16 + k)) ∧ hI h 13 5 = σ.1 12 ∧ hI h 13 6 = σ.1 20 ∧ hI h 18 3 = σ.1 13 ∧ hI h 18 4 = σ.1 14 ∧ hI h 20 2 = σ.1 15
/-- what the class's machine leaves alone: pages apart, cells 13 to 21 may change -/
def Fm (h h' : PH) : Prop := hn h ≤ hn h' ∧ hc h' + hn h = hc h + hn h' ∧ hs h' + 256 * hn h = hs h + 256 * hn h' ∧ (∀ a, a < 40 → a ≠ 17 → hR h' a = hR h a) ∧ (∀ a, a < 40 → a < 13 ∨ 21 < a → hI h' a = hI h a) ∧ ∀ a, a < 40 → hL h' a = hL h a
theorem Fm.rf {h : PH} : Fm h h := ⟨Nat.le_refl _, rfl, rfl, fun _ _ _ => rfl, fun _ _ _ => rfl, fun _ _ => rfl⟩
theorem Fm.tr {h h1 h2 : PH} (q : Fm h h1) (r : Fm h1 h2) : Fm h h2 := ⟨Nat.le_trans q.1 r.1, by have := q.2.1; have := r.2.1; omega, by have := q.2.2.1; have := r.2.2.1; omega, fun a h1 h2 => (r.2.2.2.1 a h1 h2).trans (q.2.2.2.1 a h1 h2), fun a h1 h2 => (r.2.2.2.2.1 a h1 h2).trans (q.2.2.2.2.1 a h1 h2), fun a h1 => (r.2.2.2.2.2 a h1).trans (q.2.2.2.2.2 a h1)⟩
theorem Fm.i {h h' : PH} (q : Fm h h') {a k : Nat} {v : Int32} (ha : 13 ≤ a ∧ a ≤ 21) : Fm h (sI h' a k v) := ⟨q.1, q.2.1, q.2.2.1, q.2.2.2.1, fun b h1 h2 => by
  rw [← q.2.2.2.2.1 b h1 h2]; exact up2_o _ _ _ (by omega), q.2.2.2.2.2⟩
theorem PgC.i {h : PH} {me : Nat → Int32} (q : PgC h me) {a k : Nat} {v : Int32} (ha : a < 40) : PgC (sI h a k v) me := by
  refine ⟨q.1, q.2.1, q.2.2.1, fun p hp => ?_⟩
  rw [← q.2.2.2 p hp]
  unfold memAt
  show (match hR h 17 (p / 256) with | none => 0 | some b => hI (sI h a k v) b (p % 256)) = _
  cases e : hR h 17 (p / 256) with
  | none => rfl
  | some b => exact rI_a (by have := (q.1 (p / 256) b (by omega) e).1; omega)
theorem va_upv {α : Type} (f : Nat → α) (k : Nat) (v : α) (j : Nat) : va_up f k v j = if j = k then v else f j := rfl
theorem sG_s {σ : MS} {k : Nat} {v : Int32} : (sG σ k v).1 k = v := va_up_self _ _ _
theorem sG_o {σ : MS} {k j : Nat} {v : Int32} (e : j ≠ k) : (sG σ k v).1 j = σ.1 j := va_up_ne _ _ e
section RCL
variable {h : PH} {σ : MS} {v : Int32} {k : Nat}
theorem RC.reg (q : RC h σ) (hk : k < 12) : RC (sI h 14 k v) (sG σ k v) := by
  obtain ⟨q1, q2, ⟨f, q3⟩, q4, q5, q6, q7, q8, q9, q10, q11⟩ := q
  refine ⟨q1.i, q2.i (by decide), ⟨f, q3⟩, q4, fun j hj => ?_, fun j hj => ?_, ?_, ?_, ?_, ?_, ?_⟩
  · show up2 (hI h) 14 k v 14 j = va_up σ.1 k v j
    rw [up2_s, va_upv]
    show (if j = k then v else hI h 14 j) = _
    rw [q5 j hj]
  · show hI h 15 j = va_up σ.1 k v (16 + j); rw [va_up_ne _ _ (by omega)]; exact q6 j hj
  all_goals (show _ = va_up σ.1 k v _; rw [va_up_ne _ _ (by omega)]; assumption)
theorem RC.cnt (q : RC h σ) (hk : k < 4) : RC (sI h 15 k v) (sG σ (16 + k) v) := by
  obtain ⟨q1, q2, ⟨f, q3⟩, q4, q5, q6, q7, q8, q9, q10, q11⟩ := q
  refine ⟨q1.i, q2.i (by decide), ⟨f, q3⟩, q4, fun j hj => ?_, fun j hj => ?_, ?_, ?_, ?_, ?_, ?_⟩
  · show hI h 14 j = va_up σ.1 (16 + k) v j; rw [va_up_ne _ _ (by omega)]; exact q5 j hj
  · show up2 (hI h) 15 k v 15 j = va_up σ.1 (16 + k) v (16 + j)
    rw [up2_s, va_upv]
    show (if j = k then v else hI h 15 j) = _
    by_cases e : j = k
    · rw [if_pos e, if_pos (by omega)]
    · rw [if_neg e, if_neg (by omega)]; exact q6 j hj
  all_goals (show _ = va_up σ.1 (16 + k) v _; rw [va_up_ne _ _ (by omega)]; assumption)
theorem RC.state (q : RC h σ) : RC (sI h 13 5 v) (sG σ 12 v) := by
  obtain ⟨q1, q2, ⟨f, q3⟩, q4, q5, q6, q7, q8, q9, q10, q11⟩ := q
  refine ⟨q1.i, q2.i (by decide), ⟨f, q3⟩, q4, fun j hj => ?_, fun j hj => ?_, rfl, ?_, ?_, ?_, ?_⟩
  · show hI h 14 j = va_up σ.1 12 v j; rw [va_up_ne _ _ (by omega)]; exact q5 j hj
  · show hI h 15 j = va_up σ.1 12 v (16 + j); rw [va_up_ne _ _ (by omega)]; exact q6 j hj
  · exact q8.trans (sG_o (by decide)).symm
  · exact q9.trans (sG_o (by decide)).symm
  · exact q10.trans (sG_o (by decide)).symm
  · exact q11.trans (sG_o (by decide)).symm
theorem RC.raise (q : RC h σ) : RC (sI h 13 6 v) (sG σ 20 v) := by
  obtain ⟨q1, q2, ⟨f, q3⟩, q4, q5, q6, q7, q8, q9, q10, q11⟩ := q
  refine ⟨q1.i, q2.i (by decide), ⟨f, q3⟩, q4, fun j hj => ?_, fun j hj => ?_, ?_, rfl, ?_, ?_, ?_⟩
  · show hI h 14 j = va_up σ.1 20 v j; rw [va_up_ne _ _ (by omega)]; exact q5 j hj
  · show hI h 15 j = va_up σ.1 20 v (16 + j); rw [va_up_ne _ _ (by omega)]; exact q6 j hj
  · exact q7.trans (sG_o (by decide)).symm
  · exact q9.trans (sG_o (by decide)).symm
  · exact q10.trans (sG_o (by decide)).symm
  · exact q11.trans (sG_o (by decide)).symm
theorem RC.rl (q : RC h σ) : RC (sI h 18 3 v) (sG σ 13 v) := by
  obtain ⟨q1, q2, ⟨f, q3⟩, q4, q5, q6, q7, q8, q9, q10, q11⟩ := q
  refine ⟨q1.i, q2.i (by decide), ⟨f, q3⟩, q4, fun j hj => ?_, fun j hj => ?_, ?_, ?_, rfl, ?_, ?_⟩
  · show hI h 14 j = va_up σ.1 13 v j; rw [va_up_ne _ _ (by omega)]; exact q5 j hj
  · show hI h 15 j = va_up σ.1 13 v (16 + j); rw [va_up_ne _ _ (by omega)]; exact q6 j hj
  · exact q7.trans (sG_o (by decide)).symm
  · exact q8.trans (sG_o (by decide)).symm
  · exact q10.trans (sG_o (by decide)).symm
  · exact q11.trans (sG_o (by decide)).symm
theorem RC.b14 (q : RC h σ) : RC (sI h 18 4 v) (sG σ 14 v) := by
  obtain ⟨q1, q2, ⟨f, q3⟩, q4, q5, q6, q7, q8, q9, q10, q11⟩ := q
  refine ⟨q1.i, q2.i (by decide), ⟨f, q3⟩, q4, fun j hj => ?_, fun j hj => ?_, ?_, ?_, ?_, rfl, ?_⟩
  · show hI h 14 j = va_up σ.1 14 v j; rw [va_up_ne _ _ (by omega)]; exact q5 j hj
  · show hI h 15 j = va_up σ.1 14 v (16 + j); rw [va_up_ne _ _ (by omega)]; exact q6 j hj
  · exact q7.trans (sG_o (by decide)).symm
  · exact q8.trans (sG_o (by decide)).symm
  · exact q9.trans (sG_o (by decide)).symm
  · exact q11.trans (sG_o (by decide)).symm
end RCL
