/-! BYTES: what both sides ask of them -/
def Bb8 (b : Int32) : Prop := b = -1 ∨ ∃ n, n < 256 ∧ b = nI n
theorem Bb8.all {b : Int32} (hb : Bb8 b) (P : Int32 → Bool) (h : (P (-1) && (List.range 256).all (fun n => P (nI n))) = true) : P b = true := by
  rw [Bool.and_eq_true, List.all_eq_true] at h
  obtain rfl | ⟨n, hn, rfl⟩ := hb
  · exact h.1
  · exact h.2 n (List.mem_range.mpr hn)
def Byt (T : List Int32) : Prop := ∀ v, v ∈ T → ∃ n, n < 256 ∧ v = nI n
theorem Byt.b {T : List Int32} (h : Byt T) (i : Nat) : Bb8 (bT T i) := by
  unfold bT
  cases e : T[i]? with
  | none => exact Or.inl rfl
  | some v => exact Or.inr (h v (List.mem_of_getElem? e))
/-- great(b) -/
def gr (b : Int32) : Int32 := if b < 97 then b else if 122 < b then b else b - 32
def isLt (b : Int32) : Bool := !decide (gr b < 65) && !decide (90 < gr b)
def isDg (b : Int32) : Bool := !decide (b < 48) && !decide (57 < b)
def isWd (b : Int32) : Bool := isLt b || isDg b || decide (b = 95) || decide (b = 46) || decide (b = 35) || decide (b = 45)
def isLb (b : Int32) : Bool := isLt b || isDg b || decide (b = 95)
def fgr (b : Int32) : Int32 := if isDg b then b - 48 else if gr b < 65 then -1 else if 70 < gr b then -1 else gr b - 65 + 10
def unS (g : Int32) : Int32 := if g < 27 then g + 64 else if g < 37 then g - 27 + 48 else if g = 37 then 95 else if g = 38 then 46 else if g = 39 then 35 else 45
theorem b_wd {b : Int32} (h : Bb8 b) : isWd b = !decide (sgI b = 0) := by simpa using h.all (fun b => isWd b == !decide (sgI b = 0)) (by decide +kernel)
theorem b_sg {b : Int32} (h : Bb8 b) : sgI b = 0 ∨ ∃ n, 1 ≤ n ∧ n < 41 ∧ sgI b = nI n := by
  have := h.all (fun b => decide (sgI b = 0) || (decide (1 ≤ (sgI b).toNatClampNeg) && decide ((sgI b).toNatClampNeg < 41) && decide (sgI b = nI (sgI b).toNatClampNeg))) (by decide +kernel)
  simp only [Bool.or_eq_true, Bool.and_eq_true, decide_eq_true_eq] at this
  rcases this with h | h
  · exact Or.inl h
  · exact Or.inr ⟨_, h.1.1, h.1.2, h.2⟩
theorem b_un {b : Int32} (h : Bb8 b) (h0 : sgI b ≠ 0) : unS (sgI b) = gr b := by
  have := h.all (fun b => decide (sgI b = 0) || decide (unS (sgI b) = gr b)) (by decide +kernel)
  simp only [Bool.or_eq_true, decide_eq_true_eq] at this
  exact this.resolve_left h0
theorem b_gr {b : Int32} (h : Bb8 b) : sgI (gr b) = sgI b := by simpa using h.all (fun b => sgI (gr b) == sgI b) (by decide +kernel)
theorem b_lt {b : Int32} (h : Bb8 b) (h0 : sgI b ≠ 0) : isLt b = !decide (26 < sgI b) := by
  have := h.all (fun b => decide (sgI b = 0) || (isLt b == !decide (26 < sgI b))) (by decide +kernel)
  simp only [Bool.or_eq_true, decide_eq_true_eq, beq_iff_eq] at this
  exact this.resolve_left h0
theorem b_lb {b : Int32} (h : Bb8 b) (h0 : sgI b ≠ 0) : isLb b = !decide (37 < sgI b) := by
  have := h.all (fun b => decide (sgI b = 0) || (isLb b == !decide (37 < sgI b))) (by decide +kernel)
  simp only [Bool.or_eq_true, decide_eq_true_eq, beq_iff_eq] at this
  exact this.resolve_left h0
theorem b_fg16 {b : Int32} (h : Bb8 b) : (fgr b < 0 ↔ ¬ dgI b < 16) ∧ (¬ fgr b < 0 → fgr b = dgI b) := by
  have := h.all (fun b => (decide (fgr b < 0) == !decide (dgI b < 16)) && (decide (fgr b < 0) || decide (fgr b = dgI b))) (by decide +kernel)
  simp only [Bool.or_eq_true, Bool.and_eq_true, decide_eq_true_eq, beq_iff_eq] at this
  refine ⟨?_, fun h0 => this.2.resolve_left h0⟩
  have h1 := this.1
  by_cases h2 : fgr b < 0 <;> by_cases h3 : dgI b < 16 <;> simp [h2, h3] at h1 ⊢
theorem b_fg10 {b : Int32} (h : Bb8 b) : ((fgr b < 0 ∨ 9 < fgr b) ↔ ¬ dgI b < 10) ∧ (¬ fgr b < 0 → fgr b = dgI b) := by
  have := h.all (fun b => ((decide (fgr b < 0) || decide (9 < fgr b)) == !decide (dgI b < 10)) && (decide (fgr b < 0) || decide (fgr b = dgI b))) (by decide +kernel)
  simp only [Bool.or_eq_true, Bool.and_eq_true, decide_eq_true_eq, beq_iff_eq] at this
  refine ⟨?_, fun h0 => this.2.resolve_left h0⟩
  have h1 := this.1
  by_cases h2 : fgr b < 0 <;> by_cases h3 : dgI b < 10 <;> by_cases h4 : 9 < fgr b <;> simp [h2, h3, h4] at h1 ⊢
theorem b_X {b : Int32} (h : Bb8 b) : gr b = 88 ↔ (b = 88 ∨ b = 120) := by
  have := h.all (fun b => (decide (gr b = 88)) == (decide (b = 88) || decide (b = 120))) (by decide +kernel)
  rw [beq_iff_eq] at this
  rw [← decide_eq_true_iff (p := gr b = 88), this, Bool.or_eq_true, decide_eq_true_eq, decide_eq_true_eq]
/-- no digit, '#', '-' or X begins a name -/
theorem b_nm {b : Int32} (h : Bb8 b) (h0 : 65 ≤ gr b ∧ gr b ≤ 90 ∧ gr b ≠ 88 ∨ gr b = 46) : ¬ dgI b < 10 ∧ b ≠ 35 ∧ b ≠ 45 ∧ b ≠ 88 ∧ b ≠ 120 := by
  have := h.all (fun b => !(decide (65 ≤ gr b) && decide (gr b ≤ 90) && !decide (gr b = 88) || decide (gr b = 46)) || (!decide (dgI b < 10) && !decide (b = 35) && !decide (b = 45) && !decide (b = 88) && !decide (b = 120))) (by decide +kernel)
  simp only [Bool.or_eq_true, Bool.and_eq_true, decide_eq_true_eq, Bool.not_eq_true', Bool.or_eq_false_iff, Bool.and_eq_false_iff, decide_eq_false_iff_not, Bool.not_eq_false'] at this
  rcases this with h1 | h1
  · obtain ⟨h2, h3⟩ := h1
    rcases h0 with ⟨a, b1, c⟩ | h0
    · rcases h2 with (h2 | h2) | h2
      · exact absurd a h2
      · exact absurd b1 h2
      · exact absurd h2 c
    · exact absurd h0 h3
  · exact ⟨h1.1.1.1.1, h1.1.1.1.2, h1.1.1.2, h1.1.2, h1.2⟩
/-! WORDS: their signs, packed by ten -/
theorem wE_p (T : List Int32) : ∀ (m p : Nat), p + m = T.length → p ≤ wE T m p ∧ wE T m p ≤ T.length ∧ (∀ i, p ≤ i → i < wE T m p → sgI (bT T i) ≠ 0) ∧ (wE T m p < T.length → sgI (bT T (wE T m p)) = 0)
  | 0, p, h => ⟨Nat.le_refl _, by unfold wE; omega, fun i h1 h2 => by unfold wE at h2; omega, fun h2 => by unfold wE at h2; omega⟩
  | m + 1, p, h => by
    unfold wE
    by_cases c : sgI (bT T p) = 0
    · rw [if_pos c]; exact ⟨Nat.le_refl _, by omega, fun i h1 h2 => by omega, fun _ => c⟩
    · rw [if_neg c]
      obtain ⟨a1, a2, a3, a4⟩ := wE_p T m (p + 1) (by omega)
      refine ⟨by omega, a2, fun i h1 h2 => ?_, a4⟩
      rcases Nat.eq_or_lt_of_le h1 with e | e
      · rw [← e]; exact c
      · exact a3 i e h2
theorem wd1_p {T : List Int32} {s : Nat} (h : s ≤ T.length) : s ≤ wd1 T s ∧ wd1 T s ≤ T.length ∧ (∀ i, s ≤ i → i < wd1 T s → sgI (bT T i) ≠ 0) ∧ (wd1 T s < T.length → sgI (bT T (wd1 T s)) = 0) := wE_p T _ s (by omega)
theorem wd1_lt {T : List Int32} {s : Nat} (h : s < T.length) (h0 : sgI (bT T s) ≠ 0) : s < wd1 T s := by
  unfold wd1; rw [show T.length - s = (T.length - s - 1) + 1 by omega, wE, if_neg h0]
  have := (wE_p T (T.length - s - 1) (s + 1) (by omega)).1; omega
theorem bT_out {T : List Int32} {i : Nat} (h : T.length ≤ i) : bT T i = -1 := by unfold bT; rw [List.getElem?_eq_none h]; rfl
theorem bT_in {T : List Int32} (hT : Byt T) {i : Nat} (h : i < T.length) : ∃ n, n < 256 ∧ bT T i = nI n := by
  unfold bT; rw [List.getElem?_eq_getElem h]; exact hT _ (List.getElem_mem h)
def zN (T : List Int32) (i : Nat) : Nat := (sgI (bT T i)).toNatClampNeg
theorem zN_e {T : List Int32} (hT : Byt T) (i : Nat) : sgI (bT T i) = nI (zN T i) ∧ zN T i < 41 := by
  rcases b_sg (hT.b i) with h | ⟨n, h1, h2, h3⟩
  · unfold zN; rw [h]; decide
  · unfold zN; rw [h3, nI_clamp (by omega)]; exact ⟨rfl, h2⟩
/-- the signs of a word, the last one first -/
def rl (T : List Int32) (s : Nat) : Nat → List Nat
  | 0 => []
  | m + 1 => zN T (s + m) :: rl T s m
def pkR : List Nat → Nat
  | [] => 0
  | d :: t => pkR t * 64 + d
theorem pkR_inj : ∀ (l k : List Nat), (∀ x ∈ l, 1 ≤ x ∧ x < 64) → (∀ x ∈ k, 1 ≤ x ∧ x < 64) → pkR l = pkR k → l = k
  | [], [], _, _, _ => rfl
  | [], d :: t, _, h, e => by have := h d List.mem_cons_self; simp only [pkR] at e; omega
  | d :: t, [], h, _, e => by have := h d List.mem_cons_self; simp only [pkR] at e; omega
  | d :: t, d2 :: t2, h, h2, e => by
    have a := h d List.mem_cons_self
    have b := h2 d2 List.mem_cons_self
    simp only [pkR] at e
    rw [pkR_inj t t2 (fun x hx => h x (List.mem_cons_of_mem _ hx)) (fun x hx => h2 x (List.mem_cons_of_mem _ hx)) (by omega), show d = d2 by omega]
theorem pkR_lt : ∀ (l : List Nat), (∀ x ∈ l, x < 64) → pkR l < 64 ^ l.length
  | [], _ => by decide
  | d :: t, h => by
    have a := h d List.mem_cons_self
    have b := pkR_lt t (fun x hx => h x (List.mem_cons_of_mem _ hx))
    simp only [pkR, List.length_cons, Nat.pow_succ]; omega
theorem rl_len (T : List Int32) (s : Nat) : ∀ m, (rl T s m).length = m
  | 0 => rfl
  | m + 1 => by rw [rl, List.length_cons, rl_len T s m]
theorem rl_mem {T : List Int32} {s : Nat} : ∀ {m x : Nat}, x ∈ rl T s m → ∃ i, i < m ∧ x = zN T (s + i)
  | 0, x, h => by cases h
  | m + 1, x, h => by
    rw [rl, List.mem_cons] at h
    rcases h with h | h
    · exact ⟨m, by omega, h⟩
    · obtain ⟨i, h1, h2⟩ := rl_mem h; exact ⟨i, by omega, h2⟩
theorem rl_ok {T : List Int32} (hT : Byt T) {s m : Nat} (h : ∀ i, s ≤ i → i < s + m → sgI (bT T i) ≠ 0) : ∀ x ∈ rl T s m, 1 ≤ x ∧ x < 64 := by
  intro x hx
  obtain ⟨i, h1, rfl⟩ := rl_mem hx
  have := zN_e hT (s + i)
  have h2 := h (s + i) (by omega) (by omega)
  refine ⟨?_, by omega⟩
  rcases Nat.eq_zero_or_pos (zN T (s + i)) with e | e
  · rw [this.1, e] at h2; exact absurd rfl h2
  · exact e
theorem rl_lt {T : List Int32} (hT : Byt T) {s m : Nat} : ∀ x ∈ rl T s m, x < 64 := by
  intro x hx
  obtain ⟨i, h1, rfl⟩ := rl_mem hx
  have := zN_e hT (s + i); omega
theorem i64_ofNat {n : Nat} (h : n < 2 ^ 31) : (nI n).toInt64 = Int64.ofNat n := by
  apply Int64.toInt_inj.mp
  rw [Int32.toInt_toInt64, nI_toInt h, Int64.toInt_ofNat_of_lt (by omega)]
theorem i64_step (a g : Nat) (h : g < 2 ^ 31) : Int64.ofNat a * 64 + (nI g).toInt64 = Int64.ofNat (a * 64 + g) := by
  rw [i64_ofNat h, show (64 : Int64) = Int64.ofNat 64 from rfl, ← Int64.ofNat_mul, ← Int64.ofNat_add]
theorem i64_inj {a b : Nat} (ha : a < 2 ^ 63) (hb : b < 2 ^ 63) (h : Int64.ofNat a = Int64.ofNat b) : a = b := by
  have := congrArg Int64.toInt h
  rw [Int64.toInt_ofNat_of_lt ha, Int64.toInt_ofNat_of_lt hb] at this; omega
theorem rwL_e {T : List Int32} (hT : Byt T) (s : Nat) : ∀ m, (rwL T s m).1 = Int64.ofNat (pkR (rl T s (min m 10))) ∧ (rwL T s m).2.1 = Int64.ofNat (pkR (rl T (s + 10) (m - 10)))
  | 0 => ⟨rfl, rfl⟩
  | m + 1 => by
    obtain ⟨a, b⟩ := rwL_e hT s m
    have e := zN_e hT (s + m)
    by_cases c : m < 10
    · simp only [rwL, rw1]
      rw [if_pos c, if_pos c, a, b, e.1, i64_step _ _ (by omega), show min m 10 = m by omega, show min (m + 1) 10 = m + 1 by omega, show m + 1 - 10 = m - 10 by omega]
      exact ⟨rfl, rfl⟩
    · simp only [rwL, rw1]
      rw [if_neg c, if_neg c, a, b, e.1, i64_step _ _ (by omega), show min m 10 = 10 by omega, show min (m + 1) 10 = 10 by omega, show m + 1 - 10 = (m - 10) + 1 by omega]
      refine ⟨rfl, ?_⟩
      rw [rl, pkR, show s + 10 + (m - 10) = s + m by omega]
theorem rl_add (T : List Int32) (s a : Nat) : ∀ b, rl T s (a + b) = rl T (s + a) b ++ rl T s a
  | 0 => rfl
  | b + 1 => by rw [← Nat.add_assoc, rl, rl, rl_add T s a b, Nat.add_assoc]; rfl
/-- head and tail of words of at most twenty signs say the words -/
theorem uH_inj {T : List Int32} (hT : Byt T) {s t m n : Nat} (hm : m ≤ 20) (hn : n ≤ 20) (hs : ∀ i, s ≤ i → i < s + m → sgI (bT T i) ≠ 0) (ht : ∀ i, t ≤ i → i < t + n → sgI (bT T i) ≠ 0) : ((rwL T s m).1 = (rwL T t n).1 ∧ (rwL T s m).2.1 = (rwL T t n).2.1) ↔ rl T s m = rl T t n := by
  obtain ⟨a1, a2⟩ := rwL_e hT s m
  obtain ⟨b1, b2⟩ := rwL_e hT t n
  have pw : ∀ {x y : Nat}, y ≤ 10 → pkR (rl T x y) < 2 ^ 63 := by
    intro x y hy
    have h1 := pkR_lt (rl T x y) (rl_lt hT)
    rw [rl_len] at h1
    exact Nat.lt_of_lt_of_le h1 (Nat.le_trans (Nat.pow_le_pow_right (by decide) hy) (by decide))
  rw [a1, a2, b1, b2]
  constructor
  · rintro ⟨h1, h2⟩
    have e1 := pkR_inj _ _ (rl_ok hT (fun i x y => hs i (by omega) (by omega))) (rl_ok hT (fun i x y => ht i (by omega) (by omega))) (i64_inj (pw (by omega)) (pw (by omega)) h1)
    have e2 := pkR_inj _ _ (rl_ok hT (fun i x y => hs i (by omega) (by omega))) (rl_ok hT (fun i x y => ht i (by omega) (by omega))) (i64_inj (pw (by omega)) (pw (by omega)) h2)
    have l1 := congrArg List.length e1
    have l2 := congrArg List.length e2
    rw [rl_len, rl_len] at l1 l2
    by_cases c : m ≤ 10
    · rw [show min m 10 = m by omega, show min n 10 = n by omega] at e1; exact e1
    · rw [show min m 10 = 10 by omega, show min n 10 = 10 by omega] at e1
      have x1 := rl_add T s 10 (m - 10)
      have x2 := rl_add T t 10 (n - 10)
      rw [show 10 + (m - 10) = m by omega] at x1
      rw [show 10 + (n - 10) = n by omega] at x2
      rw [x1, x2, e1, e2]
  · intro h
    have l := congrArg List.length h
    rw [rl_len, rl_len] at l
    subst l
    have h1 : ∀ k, k ≤ m → rl T s k = rl T t k := by
      intro k hk
      rw [show m = k + (m - k) by omega, rl_add, rl_add] at h
      exact (List.append_inj' h (by rw [rl_len, rl_len])).2
    refine ⟨by rw [h1 _ (by omega)], ?_⟩
    by_cases c : m ≤ 10
    · rw [show m - 10 = 0 by omega]; rfl
    · rw [show m = 10 + (m - 10) by omega, rl_add, rl_add] at h
      rw [(List.append_inj' h (by rw [rl_len, rl_len])).1]
/-! NAMES: those of both sides -/
def nmB : List (List Int32) := [[65, 68, 68], [65, 78, 68], [78, 79, 84], [76, 68], [76, 68, 73], [76, 69, 65], [83, 84], [83, 84, 73], [76, 68, 82], [83, 84, 82], [74, 77, 80], [74, 83, 82], [74, 83, 82, 82], [84, 82, 65, 80], [82, 69, 84], [82, 84, 73], [71, 69, 84, 67], [79, 85, 84], [80, 85, 84, 83], [73, 78], [80, 85, 84, 83, 80], [72, 65, 76, 84], [66, 82], [66, 82, 80], [66, 82, 90], [66, 82, 90, 80], [66, 82, 78], [66, 82, 78, 80], [66, 82, 78, 90], [66, 82, 78, 90, 80], [46, 79, 82, 73, 71], [46, 70, 73, 76, 76], [46, 66, 76, 75, 87], [46, 83, 84, 82, 73, 78, 71, 90], [46, 69, 78, 68]]
def nmQ : List Nat := [0, 4, 8, 12, 15, 19, 23, 26, 30, 34, 38, 42, 46, 51, 56, 60, 64, 69, 73, 78, 81, 87, 92, 95, 99, 103, 108, 112, 117, 122, 128, 134, 140, 146, 155, 160]
def opN : List Nat := [12, 14, 16, 17, 18, 19, 20, 21, 22, 23, 25, 26, 27, 35, 24, 28, 29, 30, 31, 32, 33, 34, 5, 8, 7, 11, 6, 10, 9, 4, 0, 36, 1, 2, 3]
def nmO : List Nat := [30, 32, 33, 34, 29, 22, 26, 24, 23, 28, 27, 25, 0, 0, 1, 1, 2, 3, 4, 5, 6, 7, 8, 9, 14, 10, 11, 12, 15, 16, 17, 18, 19, 20, 21, 13, 31]
def nmC (i : Nat) : Int32 := (strB.getD 11 []).getD i 0
def nmN (k : Nat) : Nat := (nmB.getD k []).length
def nmQk (k : Nat) : Nat := nmQ.getD k 0
def sgN (b : Int32) : Nat := (sgI b).toNatClampNeg
def nmS (k : Nat) : List Nat := ((nmB.getD k []).map sgN).reverse
def nmIs (T : List Int32) (s m k : Nat) : Bool := decide (nmN k = m) && (List.range m).all (fun i => decide (nmC (nmQk k + i) = gr (bT T (s + i))))
def nmF (T : List Int32) (s m : Nat) : Option Nat := (List.range 35).find? (fun k => nmIs T s m k)
theorem nm_a : ∀ k, k < 35 → (∀ i, i < nmN k → nmC (nmQk k + i) = (nmB.getD k []).getD i 0 ∧ nmC (nmQk k + i) ≠ 32) ∧ nmC (nmQk k + nmN k) = 32 ∧ nmQk (k + 1) = nmQk k + nmN k + 1 ∧ 1 ≤ nmN k ∧ nmN k ≤ 8 := by decide +kernel
theorem nm_b : ∀ k, k < 35 → opSigns.getD (opN.getD k 0) 0 = Int64.ofNat (pkR (nmS k)) ∧ fO 37 0 (opSigns.getD (opN.getD k 0) 0) = some (opN.getD k 0) ∧ nmO.getD (opN.getD k 0) 0 = k ∧ opN.getD k 0 < 37 ∧ (nmS k).all (fun x => decide (1 ≤ x) && decide (x < 64)) = true := by decide +kernel
theorem nm_c : ∀ i, i < 37 → nmO.getD i 0 < 35 ∧ opSigns.getD i 0 = Int64.ofNat (pkR (nmS (nmO.getD i 0))) := by decide +kernel
theorem nm_d : ∀ k, k < 35 → ∀ j, j < 35 → nmS k = nmS j → k = j := by decide +kernel
theorem nmE9 : ∀ k, k < 35 → ∀ i, i < nmN k → (nmS k)[nmN k - 1 - i]? = some (sgN (nmC (nmQk k + i))) ∧ nmC (nmQk k + i) = unS (sgI (nmC (nmQk k + i))) ∧ sgI (nmC (nmQk k + i)) = nI (sgN (nmC (nmQk k + i))) := by decide +kernel
theorem rl_get (T : List Int32) (s : Nat) : ∀ (m i : Nat), i < m → (rl T s m)[m - 1 - i]? = some (zN T (s + i))
  | 0, i, h => by omega
  | m + 1, i, h => by
    rw [rl]
    rcases Nat.eq_or_lt_of_le (Nat.le_of_lt_succ h) with e | e
    · subst e; rw [show i + 1 - 1 - i = 0 by omega]; rfl
    · rw [show m + 1 - 1 - i = (m - 1 - i) + 1 by omega, List.getElem?_cons_succ]; exact rl_get T s m i e
theorem rl_ext {T : List Int32} {s m : Nat} {l : List Nat} (hl : l.length = m) (h : ∀ i, i < m → l[m - 1 - i]? = some (zN T (s + i))) : rl T s m = l := by
  apply List.ext_getElem?
  intro j
  by_cases c : j < m
  · have := h (m - 1 - j) (by omega)
    have e := rl_get T s m (m - 1 - j) (by omega)
    rw [show m - 1 - (m - 1 - j) = j by omega] at this e
    rw [this, e]
  · rw [List.getElem?_eq_none (by rw [rl_len]; omega), List.getElem?_eq_none (by omega)]
/-- the same great bytes: the same signs -/
theorem rl_gr {T : List Int32} (hT : Byt T) {s t m : Nat} (hs : ∀ i, s ≤ i → i < s + m → sgI (bT T i) ≠ 0) (ht : ∀ i, t ≤ i → i < t + m → sgI (bT T i) ≠ 0) : rl T s m = rl T t m ↔ ∀ i, i < m → gr (bT T (s + i)) = gr (bT T (t + i)) := by
  constructor
  · intro h i hi
    have e1 := rl_get T s m i hi
    have e2 := rl_get T t m i hi
    rw [h, e2, Option.some.injEq] at e1
    rw [← b_un (hT.b _) (hs _ (by omega) (by omega)), ← b_un (hT.b _) (ht _ (by omega) (by omega)), (zN_e hT (s + i)).1, (zN_e hT (t + i)).1, e1]
  · intro h
    refine rl_ext (rl_len _ _ _) (fun i hi => ?_)
    rw [rl_get T t m i hi]
    unfold zN
    rw [← b_gr (hT.b (s + i)), h i hi, b_gr (hT.b (t + i))]
theorem nmS_len (k : Nat) : (nmS k).length = nmN k := by unfold nmS nmN; rw [List.length_reverse, List.length_map]
theorem nmIs_e {T : List Int32} (hT : Byt T) {s m k : Nat} (hk : k < 35) (hs : ∀ i, s ≤ i → i < s + m → sgI (bT T i) ≠ 0) : nmIs T s m k = true ↔ rl T s m = nmS k := by
  unfold nmIs
  rw [Bool.and_eq_true, List.all_eq_true, decide_eq_true_eq]
  constructor
  · rintro ⟨rfl, h⟩
    refine rl_ext (nmS_len k) (fun i hi => ?_)
    have e := nmE9 k hk i hi
    have h1 := h i (List.mem_range.mpr hi)
    rw [decide_eq_true_eq] at h1
    rw [e.1]
    unfold zN
    rw [← b_gr (hT.b (s + i)), ← h1]; rfl
  · intro h
    have l := congrArg List.length h
    rw [rl_len, nmS_len] at l
    subst l
    refine ⟨rfl, fun i hi => ?_⟩
    rw [List.mem_range] at hi
    rw [decide_eq_true_eq]
    have e := nmE9 k hk i hi
    have e2 := rl_get T s _ i hi
    rw [h, e.1, Option.some.injEq] at e2
    rw [e.2.1, e.2.2, e2, ← (zN_e hT (s + i)).1]
    exact b_un (hT.b _) (hs _ (by omega) (by omega))
theorem fO_none : ∀ (m i : Nat) (h : Int64), (∀ j, i ≤ j → j < i + m → opSigns.getD j 0 ≠ h) → fO m i h = none
  | 0, _, _, _ => rfl
  | m + 1, i, h, hh => by rw [fO, if_neg (hh i (Nat.le_refl _) (by omega))]; exact fO_none m (i + 1) h (fun j h1 h2 => hh j (by omega) (by omega))
theorem uO_e {T : List Int32} (hT : Byt T) {s : Nat} (h : s ≤ T.length) : uO T s = (nmF T s (wd1 T s - s)).map (fun k => opN.getD k 0) := by
  obtain ⟨a1, a2, a3, a4⟩ := wd1_p h
  have hs : ∀ i, s ≤ i → i < s + (wd1 T s - s) → sgI (bT T i) ≠ 0 := fun i x y => a3 i x (by omega)
  have e0 : uH T s = rwL T s (wd1 T s - s) := rfl
  generalize hm : wd1 T s - s = m at hs e0
  have hN : (∀ k, k < 35 → rl T s m ≠ nmS k) → nmF T s m = none := by
    intro hh
    unfold nmF
    rw [List.find?_eq_none]
    intro k hk c
    exact hh k (List.mem_range.mp hk) ((nmIs_e hT (List.mem_range.mp hk) hs).mp c)
  unfold uO
  rw [hm]
  by_cases c : 10 < m
  · rw [if_pos c, hN]
    · rfl
    · intro k hk e
      have := congrArg List.length e
      rw [rl_len, nmS_len] at this
      have := (nm_a k hk).2.2.2.2
      omega
  · rw [if_neg c]
    have hH : (uH T s).1 = Int64.ofNat (pkR (rl T s m)) := by rw [e0, (rwL_e hT s m).1, show min m 10 = m by omega]
    have hb : pkR (rl T s m) < 2 ^ 63 := by
      have h1 := pkR_lt (rl T s m) (rl_lt hT)
      rw [rl_len] at h1
      exact Nat.lt_of_lt_of_le h1 (Nat.le_trans (Nat.pow_le_pow_right (by decide) (show m ≤ 10 by omega)) (by decide))
    by_cases d : ∃ k, k < 35 ∧ rl T s m = nmS k
    · obtain ⟨k, hk, e⟩ := d
      have hF : nmF T s m = some k := by
        unfold nmF
        cases f : (List.range 35).find? (fun k => nmIs T s m k) with
        | none => exact absurd ((nmIs_e hT hk hs).mpr e) (List.find?_eq_none.mp f k (List.mem_range.mpr hk))
        | some j =>
          have h1 := List.find?_some f
          have h2 := List.mem_range.mp (List.mem_of_find?_eq_some f)
          have h3 := (nmIs_e hT h2 hs).mp h1
          rw [nm_d k hk j h2 (e.symm.trans h3)]
      rw [hF, hH, e, ← (nm_b k hk).1, (nm_b k hk).2.1]; rfl
    · rw [hN (fun k hk e => d ⟨k, hk, e⟩)]
      refine fO_none 37 0 _ (fun j _ hj e => d ?_)
      have hj2 := nm_c j (by omega)
      have hj3 := nm_b _ hj2.1
      refine ⟨_, hj2.1, ?_⟩
      rw [hH, hj2.2] at e
      have hk9 : ∀ x ∈ nmS (nmO.getD j 0), 1 ≤ x ∧ x < 64 := by
        intro x hx
        have := List.all_eq_true.mp hj3.2.2.2.2 x hx
        simpa using this
      refine pkR_inj _ _ (rl_ok hT hs) hk9 (i64_inj hb ?_ e.symm)
      have h1 := pkR_lt _ (fun x hx => (hk9 x hx).2)
      have := (nm_a _ hj2.1).2.2.2.2
      rw [nmS_len] at h1
      exact Nat.lt_of_lt_of_le h1 (Nat.le_trans (Nat.pow_le_pow_right (by decide) this) (by decide))
/-! REGISTERS, NUMBERS, LABELS: both sides' -/
theorem b_r {b : Int32} (h : Bb8 b) : (gr b = 82 ↔ sgN b = 18) := by
  have := h.all (fun b => decide (gr b = 82) == decide (sgN b = 18)) (by decide +kernel)
  rw [beq_iff_eq] at this
  rw [← decide_eq_true_iff (p := gr b = 82), this, decide_eq_true_eq]
theorem b_7 {b : Int32} (h : Bb8 b) : (¬ b < 48 ∧ ¬ 55 < b ↔ 27 ≤ sgN b ∧ sgN b ≤ 34) ∧ (¬ b < 48 → ¬ 55 < b → b - 48 = nI (sgN b - 27)) := by
  have := h.all (fun b => ((!decide (b < 48) && !decide (55 < b)) == (decide (27 ≤ sgN b) && decide (sgN b ≤ 34))) && (decide (b < 48) || decide (55 < b) || decide (b - 48 = nI (sgN b - 27)))) (by decide +kernel)
  rw [Bool.and_eq_true, beq_iff_eq] at this
  refine ⟨?_, fun a c => ?_⟩
  · have h1 := this.1
    constructor
    · rintro ⟨a, c⟩; simp only [a, c, decide_false, Bool.not_false, Bool.and_true] at h1; simpa using h1.symm
    · rintro ⟨a, c⟩; simp only [a, c, decide_true, Bool.and_true] at h1; simpa using h1
  · have h2 := this.2; simp only [a, c, decide_false, Bool.false_or, decide_eq_true_eq] at h2; exact h2
theorem rg_c : ∀ j, j < 8 → (Int64.ofNat (1179 + j) - 1179).toInt32 = nI j := by decide +kernel
theorem lN_lt9 {a b : Nat} (ha : a < 2 ^ 63) (hb : b < 2 ^ 63) : Int64.ofNat a < Int64.ofNat b ↔ a < b := by
  rw [Int64.lt_iff_toInt_lt, Int64.toInt_ofNat_of_lt ha, Int64.toInt_ofNat_of_lt hb]; omega
def rgS (T : List Int32) (s m : Nat) : Bool := decide (m = 2) && decide (gr (bT T s) = 82) && !decide (bT T (s + 1) < 48) && !decide (55 < bT T (s + 1))
theorem uR_e {T : List Int32} (hT : Byt T) {s : Nat} : uR T s = if rgS T s (wd1 T s - s) then some (bT T (s + 1) - 48) else none := by
  unfold uR rgS
  have e0 : uH T s = rwL T s (wd1 T s - s) := rfl
  generalize hm : wd1 T s - s = m at e0
  by_cases c : m = 2
  · subst c
    have hH : (uH T s).1 = Int64.ofNat (zN T s * 64 + zN T (s + 1)) := by rw [e0, (rwL_e hT s 2).1]; show Int64.ofNat ((0 * 64 + zN T (s + 0)) * 64 + zN T (s + 1)) = _; rw [Nat.zero_mul, Nat.zero_add, Nat.add_zero]
    have n0 := (zN_e hT s).2
    have n1 := (zN_e hT (s + 1)).2
    rw [if_pos rfl, hH, show (1179 : Int64) = Int64.ofNat 1179 from rfl, show (1186 : Int64) = Int64.ofNat 1186 from rfl]
    simp only [lN_lt9 (show zN T s * 64 + zN T (s + 1) < 2 ^ 63 by omega) (show 1179 < 2 ^ 63 by decide), lN_lt9 (show 1186 < 2 ^ 63 by decide) (show zN T s * 64 + zN T (s + 1) < 2 ^ 63 by omega)]
    have h7 := b_7 (hT.b (s + 1))
    have hr := b_r (hT.b s)
    change (gr (bT T s) = 82 ↔ zN T s = 18) at hr
    change (_ ↔ 27 ≤ zN T (s + 1) ∧ zN T (s + 1) ≤ 34) ∧ (_ → _ → _ = nI (zN T (s + 1) - 27)) at h7
    by_cases g : gr (bT T s) = 82
    · have g2 := hr.mp g
      by_cases k : ¬ bT T (s + 1) < 48 ∧ ¬ 55 < bT T (s + 1)
      · have k2 := h7.1.mp k
        rw [if_neg (by omega), if_neg (by omega), if_pos (by simp [g, k.1, k.2]), h7.2 k.1 k.2]
        have := rg_c (zN T (s + 1) - 27) (by omega)
        rw [show 1179 + (zN T (s + 1) - 27) = zN T s * 64 + zN T (s + 1) by omega] at this
        exact congrArg some this
      · have k2 : ¬ (27 ≤ zN T (s + 1) ∧ zN T (s + 1) ≤ 34) := fun x => k (h7.1.mpr x)
        rw [if_neg (show ¬ (decide True && decide (gr (bT T s) = 82) && !decide (bT T (s + 1) < 48) && !decide (55 < bT T (s + 1))) = true from fun x => k (by simp only [Bool.and_eq_true, Bool.not_eq_true', decide_eq_false_iff_not] at x; exact ⟨x.1.2, x.2⟩))]
        by_cases x : zN T s * 64 + zN T (s + 1) < 1179
        · rw [if_pos x]
        · rw [if_neg x, if_pos (by omega)]
    · have g2 : ¬ zN T s = 18 := fun x => g (hr.mpr x)
      rw [if_neg (show ¬ (decide True && decide (gr (bT T s) = 82) && !decide (bT T (s + 1) < 48) && !decide (55 < bT T (s + 1))) = true by simp [g])]
      by_cases x : zN T s * 64 + zN T (s + 1) < 1179
      · rw [if_pos x]
      · rw [if_neg x, if_pos (by omega)]
  · rw [if_neg c, if_neg (by simp [c])]
theorem lab_e {T : List Int32} (hT : Byt T) (s : Nat) (h0 : sgI (bT T s) ≠ 0) : ∀ m, (∀ i, s ≤ i → i < s + m → sgI (bT T i) ≠ 0) → (rwL T s m).2.2 = (if isLt (bT T s) && (List.range m).all (fun i => isLb (bT T (s + i))) then 1 else 0)
  | 0, _ => by
    rw [rwL, b_lt (hT.b s) h0]
    by_cases c : 26 < sgI (bT T s) <;> simp [c]
  | m + 1, h => by
    have ih := lab_e hT s h0 m (fun i a b => h i a (by omega))
    simp only [rwL, rw1]
    rw [ih, List.range_succ, List.all_append]
    have e := b_lb (hT.b (s + m)) (h _ (by omega) (by omega))
    simp only [List.all_cons, List.all_nil, Bool.and_true]
    rw [e]
    by_cases a : (isLt (bT T s) && (List.range m).all (fun i => isLb (bT T (s + i)))) = true
    · rw [if_pos a, ← Bool.and_assoc, a]
      by_cases c : 37 < sgI (bT T (s + m)) <;> simp [c]
    · rw [if_neg a, ← Bool.and_assoc, Bool.not_eq_true _ |>.mp a]; simp
def lbS (T : List Int32) (s m : Nat) : Bool := isLt (bT T s) && decide (m ≤ 20) && (List.range m).all (fun i => isLb (bT T (s + i)))
theorem uL_e {T : List Int32} (hT : Byt T) {s : Nat} (h : s < T.length) (h0 : sgI (bT T s) ≠ 0) : uL T s = lbS T s (wd1 T s - s) := by
  have h1 := wd1_p (Nat.le_of_lt h)
  have e : (uH T s).2.2 = _ := lab_e hT s h0 (wd1 T s - s) (fun i a b => h1.2.2.1 i a (by omega))
  unfold uL lbS
  rw [e]
  cases isLt (bT T s) <;> cases (List.range (wd1 T s - s)).all (fun i => isLb (bT T (s + i))) <;> simp
/-- no name is a number or a register -/
theorem nm_f : ∀ k, k < 35 → (65 ≤ nmC (nmQk k) ∧ nmC (nmQk k) ≤ 90 ∧ nmC (nmQk k) ≠ 88 ∨ nmC (nmQk k) = 46) ∧ (nmN k = 2 → nmC (nmQk k) ≠ 82) := by decide +kernel
theorem nmF_p {T : List Int32} {s m k : Nat} (h : nmF T s m = some k) : k < 35 ∧ nmIs T s m k = true := ⟨List.mem_range.mp (List.mem_of_find?_eq_some h), List.find?_some (p := fun k => nmIs T s m k) h⟩
theorem nmIs_0 {T : List Int32} {s m k : Nat} (hk : k < 35) (h : nmIs T s m k = true) : nmN k = m ∧ nmC (nmQk k) = gr (bT T s) := by
  unfold nmIs at h
  rw [Bool.and_eq_true, List.all_eq_true, decide_eq_true_eq] at h
  have := h.2 0 (List.mem_range.mpr (by have := (nm_a k hk).2.2.2.1; omega))
  exact ⟨h.1, by simpa using this⟩
theorem num_none {T : List Int32} {s e : Nat} (hd : ¬ dgI (bT T s) < 10 ∧ bT T s ≠ 35 ∧ bT T s ≠ 45 ∧ bT T s ≠ 88 ∧ bT T s ≠ 120) : numS T s e = none := by
  have h1 : nbS T s = 10 := by unfold nbS; rw [if_neg hd.2.2.2.1, if_neg hd.2.2.2.2]
  have h2 : niS T s = s := by unfold niS; rw [h1, if_neg (by decide), if_neg hd.2.1]
  have h3 : njS T s = s := by unfold njS; rw [h2, if_neg hd.2.2.1]
  unfold numS
  rw [h1, h3]
  by_cases c : e ≤ s
  · rw [if_pos c]
  · rw [if_neg c]
    rw [show e - s = (e - s - 1) + 1 by omega, dgS, if_neg hd.1]
    exact ite_self _
theorem uO_num {T : List Int32} (hT : Byt T) {s : Nat} (h : s ≤ T.length) (h0 : (uO T s).isSome) : numS T s (wd1 T s) = none ∧ uR T s = none := by
  rw [uO_e hT h] at h0
  cases e : nmF T s (wd1 T s - s) with
  | none => rw [e] at h0; cases h0
  | some k =>
    have p := nmF_p e
    have p0 := nmIs_0 p.1 p.2
    have f := nm_f k p.1
    rw [p0.2] at f
    refine ⟨num_none (b_nm (hT.b s) f.1), ?_⟩
    rw [uR_e hT, if_neg]
    unfold rgS
    intro c
    simp only [Bool.and_eq_true, decide_eq_true_eq] at c
    exact f.2 (p0.1.trans c.1.1.1) c.1.1.2
theorem num_reg {T : List Int32} (hT : Byt T) {s : Nat} (h0 : (numS T s (wd1 T s)).isSome) : uR T s = none := by
  rw [uR_e hT]
  by_cases c : rgS T s (wd1 T s - s) = true
  · unfold rgS at c
    simp only [Bool.and_eq_true, decide_eq_true_eq] at c
    have g := c.1.1.2
    rw [num_none (b_nm (hT.b s) (by rw [g]; decide))] at h0; cases h0
  · rw [if_neg c]
/-- which words each side calls what -/
theorem wk_e {T : List Int32} (hT : Byt T) {s : Nat} (h : s < T.length) (h0 : sgI (bT T s) ≠ 0) : (wk T s = 1 ↔ (uO T s).isSome) ∧ (wk T s = 2 ↔ (numS T s (wd1 T s)).isSome) ∧ (wk T s = 3 ↔ (uR T s).isSome) ∧ (wk T s = 4 ↔ (uL T s = true ∧ ¬ (numS T s (wd1 T s)).isSome ∧ ¬ (uR T s).isSome ∧ ¬ (uO T s).isSome)) := by
  have a := uO_num hT (Nat.le_of_lt h)
  have b := @num_reg T hT s
  unfold wk
  cases e1 : uO T s with
  | some i => obtain ⟨x, y⟩ := a (by rw [e1]; rfl); rw [x, y]; simp
  | none =>
    cases e2 : numS T s (wd1 T s) with
    | some v => rw [b (by rw [e2]; rfl)]; simp
    | none =>
      cases e3 : uR T s with
      | some v => simp
      | none => cases uL T s <;> simp
