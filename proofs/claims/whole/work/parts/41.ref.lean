/-! THE REFERENCE READS: tokens -/
section
variable {X : Nat × (Nat → Int32)} {M : MR} {d L pc idx : Nat} {ls : List (Option Value)} {st : List Value} {h0 h : PH} {Q : Option Value → PH → Prop} {T : List Int32} {ψ : Nat → Nat → Int32} {ty : FieldType} {k c : Nat} {v i : Int32} {f9 : Bool}
theorem RU.pa (q : RU h T ψ) (hc : c ∈ uCs) : RU (sI h c k v) T (uP ψ c k v) := by
  have e25 : c ≠ 25 := fun e => by subst e; revert hc; decide
  have e30 : c ≠ 30 := fun e => by subst e; revert hc; decide
  refine ⟨q.1.i, ⟨q.2.1.1, fun i w hw => (rI_a (Ne.symm e30)).trans (q.2.1.2 i w hw)⟩, (uP_c (Ne.symm e25)).trans q.2.2.1, fun j hj => ?_, fun c2 hc2 j => ?_⟩
  · rw [uP_c (Ne.symm e25), rI_a (Ne.symm e25)]; exact q.2.2.2.1 j hj
  · by_cases e : c2 = c
    · subst e
      by_cases e2 : j = k
      · subst e2; rw [uP_s, rI, if_pos rfl, if_pos rfl]
      · rw [uP_k e2, rI_k e2]; exact q.2.2.2.2 c2 hc2 j
    · rw [uP_c e, rI_a e]; exact q.2.2.2.2 c2 hc2 j
theorem uCs_in : ∀ c, c ∈ uCs → c ∈ [25, 31, 32, 33, 34, 35, 36, 38] ∧ c ≠ 25 ∧ kd c = 12 ∧ c < 40 := by decide
theorem Fu.pa (f : Fu h0 h) (hc : c ∈ uCs) : Fu h0 (sI h c k v) := ⟨f.1.i (uCs_in c hc).1, fun j hj => (rI_a (Ne.symm (uCs_in c hc).2.1)).trans (f.2 j hj)⟩
theorem u_ld (hc : c ∈ uCs) (q : RU h T ψ) (hd : decode M.2.1 pc = .ok (.iaload, 1)) (hin : vp_in i (ln c)) (kk : WP X M d L (pc + 1) ls (.int (ψ c i.toNatClampNeg) :: st) h Q) : WP X M d L pc ls (.int i :: .ref c :: st) h Q :=
  w_iaload hd (uCs_in c hc).2.2.1 (q.1.lt (uCs_in c hc).2.2.2) hin (by rw [q.2.2.2.2 c hc]; exact kk)
theorem u_st (hc : c ∈ uCs) (f : Fu h0 h) (q : RU h T ψ) (hd : decode M.2.1 pc = .ok (.iastore, 1)) (hin : vp_in i (ln c)) (kk : ∀ h', Fu h0 h' → RU h' T (uP ψ c i.toNatClampNeg v) → WP X M d L (pc + 1) ls st h' Q) : WP X M d L pc ls (.int v :: .int i :: .ref c :: st) h Q :=
  w_iastore hd (uCs_in c hc).2.2.1 (q.1.lt (uCs_in c hc).2.2.2) hin (kk _ (f.pa hc) (q.pa hc))
end
set_option maxRecDepth 20000 in
set_option maxHeartbeats 4000000 in
/-- sign(at) -/
theorem T_sign {X : Nat × (Nat → Int32)} {h : PH} {Q : Option Value → PH → Prop} {T : List Int32} {ψ : Nat → Nat → Int32} {i : Nat} (hi : i < 2 ^ 31) (q : RU h T ψ) (k : Q (some (.int (bT T i))) h) : WP X mX11_sign 0 0 0 (en 2 [.ref 25, .int (nI i)]) [] h Q := by
  refine w_iload_n dX11_sign_0 rfl rfl ?_
  refine w_aload_n dX11_sign_1 rfl rfl ?_
  refine u_get (k := 39) (by decide) q dX11_sign_2 fX11_190 ?_
  refine w_icmp_ge (tgt := 17) dX11_sign_5 (by decide) (fun c_5 => ?_) (fun c_5 => ?_)
  · rw [q.2.2.1, nI_leI (by have := q.2.1.1; omega) hi] at c_5
    refine w_iconst dX11_sign_17 (v := (-1)) (by decide) ?_
    refine w_iret dX11_sign_18 (fun _ e => by cases e; rfl) ?_
    rw [bT_out c_5] at k; exact k
  · rw [q.2.2.1, nI_leI (by have := q.2.1.1; omega) hi] at c_5
    refine w_aload_n dX11_sign_8 rfl rfl ?_
    refine w_gs (b := 30) q.1 dX11_sign_9 fX11_23 (by decide) rfl rfl (by decide) ?_
    refine w_iload_n dX11_sign_12 rfl rfl ?_
    refine w_iaload dX11_sign_13 rfl (q.1.lt (by decide)) (vp_in_nI (show i < 4020 by have := q.2.1.1; omega) (by decide)) ?_
    refine w_goto (tgt := 18) dX11_sign_14 (by decide) ?_
    refine w_iret dX11_sign_18 (fun _ e => by cases e; rfl) ?_
    rw [nI_clamp hi]
    have e : T[i]? = some (bT T i) := by unfold bT; rw [List.getElem?_eq_getElem (by omega)]; rfl
    rw [q.2.1.2 i _ e]; exact k

theorem skB_y {T : List Int32} {m p : Nat} (h : isBl (bT T p) = true) : skB T (m + 1) p = skB T m (p + 1) := by
  unfold isBl at h
  rw [skB]
  by_cases a : bT T p = 9
  · rw [if_pos a]
  rw [if_neg a]
  by_cases b : bT T p = 13
  · rw [if_pos b]
  rw [if_neg b]
  by_cases c : bT T p = 32
  · rw [if_pos c]
  rw [if_neg c]
  by_cases d : bT T p = 44
  · rw [if_pos d]
  · simp [a, b, c, d] at h
theorem skB_n {T : List Int32} {m p : Nat} (h : isBl (bT T p) = false) : skB T m p = p := by
  cases m with
  | zero => rfl
  | succ m =>
    unfold isBl at h
    simp only [Bool.or_eq_false_iff, decide_eq_false_iff_not] at h
    rw [skB, if_neg h.1.1.1, if_neg h.1.1.2, if_neg h.1.2, if_neg h.2]
theorem isBl_in {T : List Int32} {p : Nat} (h : isBl (bT T p) = true) : p < T.length := by
  rcases Nat.lt_or_ge p T.length with a | a
  · exact a
  · rw [bT_out a] at h; exact absurd h (by decide)
theorem sg_in {T : List Int32} {p : Nat} (h : ¬ sgI (bT T p) = 0) : p < T.length := by
  rcases Nat.lt_or_ge p T.length with a | a
  · exact a
  · rw [bT_out a] at h; exact absurd rfl h
theorem sg_w {T : List Int32} {s : Nat} (h : ¬ sgI (bT T s) = 0) : uC T s = wk T s ∧ uE T s = wd1 T s :=
  uC_w (fun e => h (by rw [e]; rfl)) (fun e => h (by rw [e]; rfl)) (fun e => h (by rw [e]; rfl)) h
/-- the reference's kind of a token -/
def rk (T : List Int32) (s : Nat) : Nat := if sgI (bT T s) = 0 then (if uC T s = 0 then 0 else if uC T s = 5 then 2 else 3) else 1
def UA (ψ φ : Nat → Nat → Int32) : Prop := ∀ c k, c ≠ 38 → ¬ (c = 25 ∧ 40 ≤ k ∧ k ≤ 46) → φ c k = ψ c k
theorem UA.rf {ψ : Nat → Nat → Int32} : UA ψ ψ := fun _ _ _ _ => rfl
theorem UA.tr {ψ φ χ : Nat → Nat → Int32} (a : UA ψ φ) (b : UA φ χ) : UA ψ χ := fun c k n1 n2 => (b c k n1 n2).trans (a c k n1 n2)
theorem UA.p {ψ φ : Nat → Nat → Int32} {k : Nat} {v : Int32} (a : UA ψ φ) (hk : 40 ≤ k ∧ k ≤ 46) : UA ψ (uP φ 25 k v) := fun c j n1 n2 => by
  by_cases e : c = 25
  · subst e; rw [uP_k (fun e => n2 ⟨rfl, by omega, by omega⟩)]; exact a 25 j n1 n2
  · rw [uP_c e]; exact a c j n1 n2
theorem UA.t {ψ φ : Nat → Nat → Int32} {k : Nat} {v : Int32} (a : UA ψ φ) : UA ψ (uP φ 38 k v) := fun c j n1 n2 => by rw [uP_c n1]; exact a c j n1 n2
def RTK (T : List Int32) (s : Nat) (ψ : Nat → Nat → Int32) : Prop := ψ 25 40 = nI (uE T s) ∧ ψ 25 41 = nI (rk T s) ∧ ψ 25 42 = nI s ∧ ψ 25 43 = nI (uE T s) ∧ (uC T s = 5 → ψ 25 46 = nI (uX T s).length ∧ ∀ (i : Nat) (v : Int32), (uX T s)[i]? = some v → ψ 38 i = v)
set_option maxRecDepth 20000 in
set_option maxHeartbeats 4000000 in
theorem L_n1 {X : Nat × (Nat → Int32)} {h0 : PH} {Q : Option Value → PH → Prop} {T : List Int32} (hT : T.length ≤ 4000) : ∀ (m p : Nat) (h : PH) (ψ : Nat → Nat → Int32), p + m = T.length → ψ 25 40 = nI p → Fu h0 h → RU h T ψ → (∀ h' φ, Fu h0 h' → RU h' T φ → UA ψ φ → φ 25 40 = nI (skB T m p) → WP X mX11_next 3 60 27 [some (.ref 25)] [] h' Q) → WP X mX11_next 3 60 0 [some (.ref 25)] [] h Q := by
  intro m
  induction m with
  | zero =>
    intro p h ψ hn hp f q k
    refine w_aload_n dX11_next_0 rfl rfl ?_
    refine w_aload_n dX11_next_1 rfl rfl ?_
    refine u_get (k := 40) (by decide) q dX11_next_2 fX11_202 ?_
    refine w_v1 (d2 := 0) (L2 := 0) dX11_next_5 vX11_205 rfl (q.1.lt (by decide)) rfl (by decide) (Nat.le_of_ble_eq_true rfl) (by decide) (by decide) ?_
    rw [hp]
    refine T_sign (by omega) q ?_
    refine k_i rfl ?_
    refine w_s1 (d2 := 0) (L2 := 0) dX11_next_8 vX11_208 rfl (by decide) (Nat.le_of_ble_eq_true rfl) (by decide) (by decide) ?_
    refine T_isBl ?_
    rw [bT_out (T := T) (by omega)]
    refine k_i rfl ?_
    refine w_if_eq (tgt := 27) dX11_next_11 (by decide) (fun c_11 => ?_) (fun c_11 => absurd c_11 (by decide))
    exact k _ _ f q UA.rf hp
  | succ m ih =>
    intro p h ψ hn hp f q k
    refine w_aload_n dX11_next_0 rfl rfl ?_
    refine w_aload_n dX11_next_1 rfl rfl ?_
    refine u_get (k := 40) (by decide) q dX11_next_2 fX11_202 ?_
    refine w_v1 (d2 := 0) (L2 := 0) dX11_next_5 vX11_205 rfl (q.1.lt (by decide)) rfl (by decide) (Nat.le_of_ble_eq_true rfl) (by decide) (by decide) ?_
    rw [hp]
    refine T_sign (by omega) q ?_
    refine k_i rfl ?_
    refine w_s1 (d2 := 0) (L2 := 0) dX11_next_8 vX11_208 rfl (by decide) (Nat.le_of_ble_eq_true rfl) (by decide) (by decide) ?_
    refine T_isBl ?_
    cases e_b : isBl (bT T p)
    · refine k_i rfl ?_
      refine w_if_eq (tgt := 27) dX11_next_11 (by decide) (fun c_11 => ?_) (fun c_11 => absurd c_11 (by decide))
      exact k _ _ f q UA.rf (by rw [skB_n e_b]; exact hp)
    · refine k_i rfl ?_
      refine w_if_eq (tgt := 27) dX11_next_11 (by decide) (fun c_11 => absurd c_11 (by decide)) (fun c_11 => ?_)
      refine w_aload_n dX11_next_14 rfl rfl ?_
      refine w_dup dX11_next_15 rfl ?_
      refine u_get (k := 40) (by decide) q dX11_next_16 fX11_202 ?_
      refine w_iconst dX11_next_19 (v := 1) (by decide) ?_
      refine w_iadd dX11_next_20 ?_
      refine u_put (k := 40) (by decide) f q dX11_next_21 fX11_202 (fun h1 f1 q1 => ?_)
      refine w_goto (tgt := 0) dX11_next_24 (by decide) ?_
      exact ih (p + 1) _ _ (by omega) (by rw [uP_s, hp, nI_1]) f1 q1 (fun h9 φ9 f9 q9 u9 e9 => k h9 φ9 f9 q9 (UA.tr (UA.rf.p (by decide)) u9) (by rw [skB_y e_b]; exact e9))

set_option maxRecDepth 20000 in
set_option maxHeartbeats 4000000 in
theorem L_n2 {X : Nat × (Nat → Int32)} {h0 : PH} {Q : Option Value → PH → Prop} {T : List Int32} (hT : T.length ≤ 4000) : ∀ (m p : Nat) (h : PH) (ψ : Nat → Nat → Int32), p + m = T.length → ψ 25 40 = nI p → Fu h0 h → RU h T ψ → (∀ h' φ, Fu h0 h' → RU h' T φ → UA ψ φ → φ 25 40 = nI (skC T m p) → WP X mX11_next 3 60 77 [some (.ref 25)] [] h' Q) → WP X mX11_next 3 60 40 [some (.ref 25)] [] h Q := by
  intro m
  induction m with
  | zero =>
    intro p h ψ hn hp f q k
    refine w_aload_n dX11_next_40 rfl rfl ?_
    refine u_get (k := 40) (by decide) q dX11_next_41 fX11_202 ?_
    refine w_aload_n dX11_next_44 rfl rfl ?_
    refine u_get (k := 39) (by decide) q dX11_next_45 fX11_190 ?_
    refine w_icmp_ge (tgt := 77) dX11_next_48 (by decide) (fun c_48 => ?_) (fun c_48 => absurd c_48 (not_not_intro (by rw [hp, q.2.2.1]; exact nI_le (by omega) (by omega))))
    exact k _ _ f q UA.rf hp
  | succ m ih =>
    intro p h ψ hn hp f q k
    refine w_aload_n dX11_next_40 rfl rfl ?_
    refine u_get (k := 40) (by decide) q dX11_next_41 fX11_202 ?_
    refine w_aload_n dX11_next_44 rfl rfl ?_
    refine u_get (k := 39) (by decide) q dX11_next_45 fX11_190 ?_
    refine w_icmp_ge (tgt := 77) dX11_next_48 (by decide) (fun c_48 => absurd c_48 (by rw [hp, q.2.2.1]; exact nI_ge (by omega) (by omega))) (fun c_48 => ?_)
    refine w_aload_n dX11_next_51 rfl rfl ?_
    refine w_aload_n dX11_next_52 rfl rfl ?_
    refine u_get (k := 40) (by decide) q dX11_next_53 fX11_202 ?_
    refine w_v1 (d2 := 0) (L2 := 0) dX11_next_56 vX11_205 rfl (q.1.lt (by decide)) rfl (by decide) (Nat.le_of_ble_eq_true rfl) (by decide) (by decide) ?_
    rw [hp]
    refine T_sign (by omega) q ?_
    refine k_i rfl ?_
    refine w_bipush dX11_next_59 (v := 10) (by decide) ?_
    refine w_icmp_eq (tgt := 77) dX11_next_61 (by decide) (fun c_61 => ?_) (fun c_61 => ?_)
    · exact k _ _ f q UA.rf (by rw [skC, if_pos c_61]; exact hp)
    · refine w_aload_n dX11_next_64 rfl rfl ?_
      refine w_dup dX11_next_65 rfl ?_
      refine u_get (k := 40) (by decide) q dX11_next_66 fX11_202 ?_
      refine w_iconst dX11_next_69 (v := 1) (by decide) ?_
      refine w_iadd dX11_next_70 ?_
      refine u_put (k := 40) (by decide) f q dX11_next_71 fX11_202 (fun h1 f1 q1 => ?_)
      refine w_goto (tgt := 40) dX11_next_74 (by decide) ?_
      exact ih (p + 1) _ _ (by omega) (by rw [uP_s, hp, nI_1]) f1 q1 (fun h9 φ9 f9 q9 u9 e9 => k h9 φ9 f9 q9 (UA.tr (UA.rf.p (by decide)) u9) (by rw [skC, if_neg c_61]; exact e9))

theorem uP_o {ψ : Nat → Nat → Int32} {c k e j : Nat} {v : Int32} (h : ¬ (e = c ∧ j = k)) : uP ψ c k v e j = ψ e j := by
  by_cases a : e = c
  · subst a; exact uP_k (fun b => h ⟨rfl, b⟩)
  · exact uP_c a
set_option maxRecDepth 20000 in
set_option maxHeartbeats 4000000 in
theorem L_n3 {X : Nat × (Nat → Int32)} {h0 : PH} {Q : Option Value → PH → Prop} {T : List Int32} (hT : T.length ≤ 4000) (hB : Byt T) : ∀ (m p : Nat) (h : PH) (ψ : Nat → Nat → Int32), p + m = T.length → ψ 25 40 = nI p → Fu h0 h → RU h T ψ → (∀ h' φ, Fu h0 h' → RU h' T φ → (∀ c k, ¬ (c = 25 ∧ k = 40) → φ c k = ψ c k) → φ 25 40 = nI (wE T m p) → WP X mX11_next 3 60 158 [some (.ref 25)] [] h' Q) → WP X mX11_next 3 60 131 [some (.ref 25)] [] h Q := by
  intro m
  induction m with
  | zero =>
    intro p h ψ hn hp f q k
    refine w_aload_n dX11_next_131 rfl rfl ?_
    refine w_aload_n dX11_next_132 rfl rfl ?_
    refine u_get (k := 40) (by decide) q dX11_next_133 fX11_202 ?_
    refine w_v1 (d2 := 0) (L2 := 0) dX11_next_136 vX11_205 rfl (q.1.lt (by decide)) rfl (by decide) (Nat.le_of_ble_eq_true rfl) (by decide) (by decide) ?_
    rw [hp]
    refine T_sign (by omega) q ?_
    refine k_i rfl ?_
    refine w_s1 (d2 := 2) (L2 := 40) dX11_next_139 vX11_217 rfl (by decide) (Nat.le_of_ble_eq_true rfl) (by decide) (by decide) ?_
    refine T_isWd ?_
    rw [bT_out (T := T) (by omega)]
    refine k_i rfl ?_
    refine w_if_eq (tgt := 158) dX11_next_142 (by decide) (fun c_142 => ?_) (fun c_142 => absurd c_142 (by decide))
    exact k _ _ f q (fun _ _ _ => rfl) hp
  | succ m ih =>
    intro p h ψ hn hp f q k
    refine w_aload_n dX11_next_131 rfl rfl ?_
    refine w_aload_n dX11_next_132 rfl rfl ?_
    refine u_get (k := 40) (by decide) q dX11_next_133 fX11_202 ?_
    refine w_v1 (d2 := 0) (L2 := 0) dX11_next_136 vX11_205 rfl (q.1.lt (by decide)) rfl (by decide) (Nat.le_of_ble_eq_true rfl) (by decide) (by decide) ?_
    rw [hp]
    refine T_sign (by omega) q ?_
    refine k_i rfl ?_
    refine w_s1 (d2 := 2) (L2 := 40) dX11_next_139 vX11_217 rfl (by decide) (Nat.le_of_ble_eq_true rfl) (by decide) (by decide) ?_
    refine T_isWd ?_
    have ew := b_wd (hB.b p)
    cases e_b : isWd (bT T p)
    · refine k_i rfl ?_
      refine w_if_eq (tgt := 158) dX11_next_142 (by decide) (fun c_142 => ?_) (fun c_142 => absurd c_142 (by decide))
      exact k _ _ f q (fun _ _ _ => rfl) (by rw [wE, if_pos (by rw [e_b] at ew; simpa using ew.symm)]; exact hp)
    · refine k_i rfl ?_
      refine w_if_eq (tgt := 158) dX11_next_142 (by decide) (fun c_142 => absurd c_142 (by decide)) (fun c_142 => ?_)
      refine w_aload_n dX11_next_145 rfl rfl ?_
      refine w_dup dX11_next_146 rfl ?_
      refine u_get (k := 40) (by decide) q dX11_next_147 fX11_202 ?_
      refine w_iconst dX11_next_150 (v := 1) (by decide) ?_
      refine w_iadd dX11_next_151 ?_
      refine u_put (k := 40) (by decide) f q dX11_next_152 fX11_202 (fun h1 f1 q1 => ?_)
      refine w_goto (tgt := 131) dX11_next_155 (by decide) ?_
      exact ih (p + 1) _ _ (by omega) (by rw [uP_s, hp, nI_1]) f1 q1 (fun h9 φ9 f9 q9 u9 e9 => k h9 φ9 f9 q9 (fun c j n1 => (u9 c j n1).trans (uP_o n1)) (by rw [wE, if_neg (by rw [e_b] at ew; simpa using ew.symm)]; exact e9))

def UT (ψ φ : Nat → Nat → Int32) : Prop := ∀ c k, c ≠ 38 → ¬ (c = 25 ∧ (k = 40 ∨ k = 46)) → φ c k = ψ c k
theorem UT.tr {ψ φ χ : Nat → Nat → Int32} (a : UT ψ φ) (b : UT φ χ) : UT ψ χ := fun c k n1 n2 => (b c k n1 n2).trans (a c k n1 n2)
theorem UT.st {ψ : Nat → Nat → Int32} {j : Nat} {v w : Int32} : UT ψ (uP (uP ψ 38 j v) 25 46 w) := fun c k n1 n2 => by rw [uP_o (fun e => n2 ⟨e.1, Or.inr e.2⟩), uP_c n1]
theorem mn_r {b : Int32} : mnI b = if b = 110 then 10 else if b = 116 then 9 else if b = 48 then 0 else if b = 34 then b else if b = 92 then b else -1 := by
  unfold mnI
  by_cases a : b = 34
  · subst a; rfl
  by_cases c : b = 48
  · subst c; rfl
  by_cases d : b = 92
  · subst d; rfl
  by_cases e : b = 110
  · subst e; rfl
  by_cases g : b = 116
  · subst g; rfl
  simp [a, c, d, e, g]
set_option maxRecDepth 20000 in
set_option maxHeartbeats 4000000 in
theorem L_it2 {X : Nat × (Nat → Int32)} {h0 h : PH} {Q : Option Value → PH → Prop} {T : List Int32} {ψ : Nat → Nat → Int32} {i : Nat} {b : Int32} {l : List Int32} (hb : ¬ b = -1) (hi : l.length < 4000) (h9 : ψ 25 46 = nI l.length) (hx : ∀ (j : Nat) (v : Int32), l[j]? = some v → ψ 38 j = v) (f : Fu h0 h) (q : RU h T ψ) (kn : ∀ h' φ, Fu h0 h' → RU h' T φ → UT ψ φ → φ 25 40 = ψ 25 40 → φ 25 46 = nI (l ++ [b]).length → (∀ (j : Nat) (v : Int32), (l ++ [b])[j]? = some v → φ 38 j = v) → WP X mX11_isText 1 21 12 [some (.ref 25), some (.int (nI (i + 1))), some (.int b)] [] h' Q) : WP X mX11_isText 1 21 125 [some (.ref 25), some (.int (nI i)), some (.int b)] [] h Q := by
  refine w_iload_n dX11_isText_125 rfl rfl ?_
  refine w_iconst dX11_isText_126 (v := (-1)) (by decide) ?_
  refine w_icmp_ne (tgt := 132) dX11_isText_127 (by decide) (fun c_127 => ?_) (fun c_127 => absurd c_127 hb)
  refine w_aload_n dX11_isText_132 rfl rfl ?_
  refine w_gs (b := 38) q.1 dX11_isText_133 fX11_51 (by decide) rfl rfl (by decide) ?_
  refine w_aload_n dX11_isText_136 rfl rfl ?_
  refine u_get (k := 46) (by decide) q dX11_isText_137 fX11_226 ?_
  refine w_iload_n dX11_isText_140 rfl rfl ?_
  refine u_st (c := 38) (by decide) f q dX11_isText_141 (by rw [h9]; exact vp_in_nI (show l.length < 4000 from hi) (by decide)) (fun h1 f1 q1 => ?_)
  refine w_aload_n dX11_isText_142 rfl rfl ?_
  refine w_dup dX11_isText_143 rfl ?_
  refine u_get (k := 46) (by decide) q1 dX11_isText_144 fX11_226 ?_
  refine w_iconst dX11_isText_147 (v := 1) (by decide) ?_
  refine w_iadd dX11_isText_148 ?_
  refine u_put (k := 46) (by decide) f1 q1 dX11_isText_149 fX11_226 (fun h2 f2 q2 => ?_)
  refine w_iinc (v := (nI (i + 1))) dX11_isText_152 rfl (nI_1 i) (by decide) ?_
  refine w_goto (tgt := 12) dX11_isText_155 (by decide) ?_
  have e9 : (ψ 25 46).toNatClampNeg = l.length := by rw [h9, nI_clamp (by omega)]
  refine kn _ _ f2 q2 UT.st (by rw [uP_k (by decide), uP_c (by decide)]) ?_ (fun j v hj => ?_)
  · rw [uP_s, uP_c (by decide), h9, nI_1, List.length_append]; rfl
  · rw [uP_c (by decide)]
    by_cases c : j = l.length
    · subst c; rw [e9, uP_s]; rw [List.getElem?_append_right (Nat.le_refl _), Nat.sub_self] at hj; exact (Option.some.inj hj)
    · have hj2 : j < l.length := by
        have := (List.getElem?_eq_some_iff.mp hj).1
        rw [List.length_append] at this
        simp only [List.length_cons, List.length_nil] at this
        omega
      rw [e9, uP_k c]; rw [List.getElem?_append_left hj2] at hj; exact hx j v hj

set_option maxRecDepth 20000 in
set_option maxHeartbeats 4000000 in
theorem L_it {X : Nat × (Nat → Int32)} {h0 : PH} {Q : Option Value → PH → Prop} {T : List Int32} (hT : T.length ≤ 4000) : ∀ (m i : Nat) (l : List Int32) (h : PH) (ψ : Nat → Nat → Int32) (x : Option Value), T.length < i + m → i ≤ 4002 → l.length < i → ψ 25 46 = nI l.length → (∀ (j : Nat) (v : Int32), l[j]? = some v → ψ 38 j = v) → Fu h0 h → RU h T ψ → (∀ r, txS T m i l = some r → ∀ h' φ, Fu h0 h' → RU h' T φ → UT ψ φ → φ 25 40 = nI r.1 → φ 25 46 = nI r.2.length → (∀ (j : Nat) (v : Int32), r.2[j]? = some v → φ 38 j = v) → Q (some (.int 1)) h') → (txS T m i l = none → ∀ h' φ, Fu h0 h' → RU h' T φ → UT ψ φ → φ 25 40 = ψ 25 40 → Q (some (.int 0)) h') → WP X mX11_isText 1 21 12 [some (.ref 25), some (.int (nI i)), x] [] h Q := by
  intro m
  induction m with
  | zero =>
    intro i l h ψ x hn hi hl h9 hx f q k1 k0
    refine w_aload_n dX11_isText_12 rfl rfl ?_
    refine w_iload_n dX11_isText_13 rfl rfl ?_
    refine w_v1 (d2 := 0) (L2 := 0) dX11_isText_14 vX11_205 rfl (q.1.lt (by decide)) rfl (by decide) (Nat.le_of_ble_eq_true rfl) (by decide) (by decide) ?_
    refine T_sign (by omega) q ?_
    rw [bT_out (T := T) (by omega)]
    refine k_i rfl ?_
    refine w_bipush dX11_isText_17 (v := 34) (by decide) ?_
    refine w_icmp_eq (tgt := 158) dX11_isText_19 (by decide) (fun c_19 => absurd c_19 (by decide)) (fun c_19 => ?_)
    refine w_aload_n dX11_isText_22 rfl rfl ?_
    refine w_iload_n dX11_isText_23 rfl rfl ?_
    refine w_v1 (d2 := 0) (L2 := 0) dX11_isText_24 vX11_205 rfl (q.1.lt (by decide)) rfl (by decide) (Nat.le_of_ble_eq_true rfl) (by decide) (by decide) ?_
    refine T_sign (by omega) q ?_
    rw [bT_out (T := T) (by omega)]
    refine k_i rfl ?_
    refine w_istore_n dX11_isText_27 rfl (by decide) ?_
    refine w_iload_n dX11_isText_28 rfl rfl ?_
    refine w_bipush dX11_isText_29 (v := 32) (by decide) ?_
    refine w_icmp_lt (tgt := 40) dX11_isText_31 (by decide) (fun c_31 => ?_) (fun c_31 => absurd c_31 (by decide))
    refine w_iconst dX11_isText_40 (v := 0) (by decide) ?_
    refine w_iret dX11_isText_41 (fun _ e => by cases e; decide) ?_
    exact k0 rfl _ _ f q (fun _ _ _ _ => rfl) rfl
  | succ m ih =>
    intro i l h ψ x hn hi hl h9 hx f q k1 k0
    refine w_aload_n dX11_isText_12 rfl rfl ?_
    refine w_iload_n dX11_isText_13 rfl rfl ?_
    refine w_v1 (d2 := 0) (L2 := 0) dX11_isText_14 vX11_205 rfl (q.1.lt (by decide)) rfl (by decide) (Nat.le_of_ble_eq_true rfl) (by decide) (by decide) ?_
    refine T_sign (by omega) q ?_
    refine k_i rfl ?_
    refine w_bipush dX11_isText_17 (v := 34) (by decide) ?_
    refine w_icmp_eq (tgt := 158) dX11_isText_19 (by decide) (fun c_19 => ?_) (fun c_19 => ?_)
    · refine w_aload_n dX11_isText_158 rfl rfl ?_
      refine w_iload_n dX11_isText_159 rfl rfl ?_
      refine w_iconst dX11_isText_160 (v := 1) (by decide) ?_
      refine w_iadd dX11_isText_161 ?_
      refine u_put (k := 40) (by decide) f q dX11_isText_162 fX11_202 (fun h1 f1 q1 => ?_)
      refine w_iconst dX11_isText_165 (v := 1) (by decide) ?_
      refine w_iret dX11_isText_166 (fun _ e => by cases e; decide) ?_
      refine k1 _ (tx_q c_19) _ _ f1 q1 (fun c k n1 n2 => uP_o (fun e => n2 ⟨e.1, Or.inl e.2⟩)) (by rw [uP_s, nI_1]) (by rw [uP_k (by decide)]; exact h9) (fun j v hj => (uP_c (by decide)).trans (hx j v hj))
    · refine w_aload_n dX11_isText_22 rfl rfl ?_
      refine w_iload_n dX11_isText_23 rfl rfl ?_
      refine w_v1 (d2 := 0) (L2 := 0) dX11_isText_24 vX11_205 rfl (q.1.lt (by decide)) rfl (by decide) (Nat.le_of_ble_eq_true rfl) (by decide) (by decide) ?_
      refine T_sign (by omega) q ?_
      refine k_i rfl ?_
      refine w_istore_n dX11_isText_27 rfl (by decide) ?_
      refine w_iload_n dX11_isText_28 rfl rfl ?_
      refine w_bipush dX11_isText_29 (v := 32) (by decide) ?_
      refine w_icmp_lt (tgt := 40) dX11_isText_31 (by decide) (fun c_31 => ?_) (fun c_31 => ?_)
      · refine w_iconst dX11_isText_40 (v := 0) (by decide) ?_
        refine w_iret dX11_isText_41 (fun _ e => by cases e; decide) ?_
        exact k0 (tx_l c_19 (fun e => by rw [e] at c_31; revert c_31; decide) c_31) _ _ f q (fun _ _ _ _ => rfl) rfl
      · refine w_iload_n dX11_isText_34 rfl rfl ?_
        refine w_bipush dX11_isText_35 (v := 126) (by decide) ?_
        refine w_icmp_le (tgt := 42) dX11_isText_37 (by decide) (fun c_37 => ?_) (fun c_37 => ?_)
        · refine w_iload_n dX11_isText_42 rfl rfl ?_
          refine w_bipush dX11_isText_43 (v := 92) (by decide) ?_
          refine w_icmp_ne (tgt := 125) dX11_isText_45 (by decide) (fun c_45 => ?_) (fun c_45 => ?_)
          · have hlt : i < T.length := bT_lt (fun e => by rw [e] at c_31; revert c_31; decide)
            have TX := tx_o (m := m) (l := l) c_19 c_45 c_31 (le_nlt c_37)
            exact L_it2 (fun e => by rw [e] at c_31; revert c_31; decide) (by omega) h9 hx f q (fun h' φ f' q' u' e1 e2 e3 => ih (i + 1) (l ++ [bT T i]) h' φ _ (by omega) (by omega) (by rw [List.length_append]; simp only [List.length_cons, List.length_nil]; omega) e2 e3 f' q' (fun r e h9 φ9 f9 q9 u9 => k1 r (TX.trans e) h9 φ9 f9 q9 (u'.tr u9)) (fun e h9 φ9 f9 q9 u9 a9 => k0 (TX.trans e) h9 φ9 f9 q9 (u'.tr u9) (a9.trans e1)))
          · refine w_iinc (v := (nI (i + 1))) dX11_isText_48 rfl (nI_1 i) (by decide) ?_
            refine w_aload_n dX11_isText_51 rfl rfl ?_
            refine w_iload_n dX11_isText_52 rfl rfl ?_
            refine w_v1 (d2 := 0) (L2 := 0) dX11_isText_53 vX11_205 rfl (q.1.lt (by decide)) rfl (by decide) (Nat.le_of_ble_eq_true rfl) (by decide) (by decide) ?_
            refine T_sign (by omega) q ?_
            refine k_i rfl ?_
            refine w_bipush dX11_isText_56 (v := 110) (by decide) ?_
            refine w_icmp_ne (tgt := 66) dX11_isText_58 (by decide) (fun c_58 => ?_) (fun c_58 => ?_)
            · refine w_aload_n dX11_isText_66 rfl rfl ?_
              refine w_iload_n dX11_isText_67 rfl rfl ?_
              refine w_v1 (d2 := 0) (L2 := 0) dX11_isText_68 vX11_205 rfl (q.1.lt (by decide)) rfl (by decide) (Nat.le_of_ble_eq_true rfl) (by decide) (by decide) ?_
              refine T_sign (by omega) q ?_
              refine k_i rfl ?_
              refine w_bipush dX11_isText_71 (v := 116) (by decide) ?_
              refine w_icmp_ne (tgt := 81) dX11_isText_73 (by decide) (fun c_73 => ?_) (fun c_73 => ?_)
              · refine w_aload_n dX11_isText_81 rfl rfl ?_
                refine w_iload_n dX11_isText_82 rfl rfl ?_
                refine w_v1 (d2 := 0) (L2 := 0) dX11_isText_83 vX11_205 rfl (q.1.lt (by decide)) rfl (by decide) (Nat.le_of_ble_eq_true rfl) (by decide) (by decide) ?_
                refine T_sign (by omega) q ?_
                refine k_i rfl ?_
                refine w_bipush dX11_isText_86 (v := 48) (by decide) ?_
                refine w_icmp_ne (tgt := 95) dX11_isText_88 (by decide) (fun c_88 => ?_) (fun c_88 => ?_)
                · refine w_aload_n dX11_isText_95 rfl rfl ?_
                  refine w_iload_n dX11_isText_96 rfl rfl ?_
                  refine w_v1 (d2 := 0) (L2 := 0) dX11_isText_97 vX11_205 rfl (q.1.lt (by decide)) rfl (by decide) (Nat.le_of_ble_eq_true rfl) (by decide) (by decide) ?_
                  refine T_sign (by omega) q ?_
                  refine k_i rfl ?_
                  refine w_bipush dX11_isText_100 (v := 34) (by decide) ?_
                  refine w_icmp_eq (tgt := 115) dX11_isText_102 (by decide) (fun c_102 => ?_) (fun c_102 => ?_)
                  · refine w_aload_n dX11_isText_115 rfl rfl ?_
                    refine w_iload_n dX11_isText_116 rfl rfl ?_
                    refine w_v1 (d2 := 0) (L2 := 0) dX11_isText_117 vX11_205 rfl (q.1.lt (by decide)) rfl (by decide) (Nat.le_of_ble_eq_true rfl) (by decide) (by decide) ?_
                    refine T_sign (by omega) q ?_
                    refine k_i rfl ?_
                    refine w_goto (tgt := 124) dX11_isText_120 (by decide) ?_
                    refine w_istore_n dX11_isText_124 rfl (by decide) ?_
                    have hlt : i < T.length := bT_lt (fun e => by rw [e] at c_31; revert c_31; decide)
                    have em : mnI (bT T (i + 1)) = bT T (i + 1) := by rw [mn_r, if_neg c_58, if_neg c_73, if_neg c_88, if_pos c_102]
                    have TX := tx_m (m := m) (l := l) c_19 c_45 (by rw [em]; exact (by rw [c_102]; decide))
                    rw [em] at TX
                    exact L_it2 (by rw [c_102]; decide) (by omega) h9 hx f q (fun h' φ f' q' u' e1 e2 e3 => ih (i + 2) (l ++ [bT T (i + 1)]) h' φ _ (by omega) (by omega) (by rw [List.length_append]; simp only [List.length_cons, List.length_nil]; omega) e2 e3 f' q' (fun r e h9 φ9 f9 q9 u9 => k1 r (TX.trans e) h9 φ9 f9 q9 (u'.tr u9)) (fun e h9 φ9 f9 q9 u9 a9 => k0 (TX.trans e) h9 φ9 f9 q9 (u'.tr u9) (a9.trans e1)))
                  · refine w_aload_n dX11_isText_105 rfl rfl ?_
                    refine w_iload_n dX11_isText_106 rfl rfl ?_
                    refine w_v1 (d2 := 0) (L2 := 0) dX11_isText_107 vX11_205 rfl (q.1.lt (by decide)) rfl (by decide) (Nat.le_of_ble_eq_true rfl) (by decide) (by decide) ?_
                    refine T_sign (by omega) q ?_
                    refine k_i rfl ?_
                    refine w_bipush dX11_isText_110 (v := 92) (by decide) ?_
                    refine w_icmp_ne (tgt := 123) dX11_isText_112 (by decide) (fun c_112 => ?_) (fun c_112 => ?_)
                    · refine w_iconst dX11_isText_123 (v := (-1)) (by decide) ?_
                      refine w_istore_n dX11_isText_124 rfl (by decide) ?_
                      have hlt : i < T.length := bT_lt (fun e => by rw [e] at c_31; revert c_31; decide)
                      have em : mnI (bT T (i + 1)) = -1 := by rw [mn_r, if_neg c_58, if_neg c_73, if_neg c_88, if_neg c_102, if_neg c_112]
                      refine w_iload_n dX11_isText_125 rfl rfl ?_
                      refine w_iconst dX11_isText_126 (v := (-1)) (by decide) ?_
                      refine w_icmp_ne (tgt := 132) dX11_isText_127 (by decide) (fun c_127 => absurd rfl c_127) (fun c_127 => ?_)
                      refine w_iconst dX11_isText_130 (v := 0) (by decide) ?_
                      refine w_iret dX11_isText_131 (fun _ e => by cases e; decide) ?_
                      exact k0 (tx_e c_19 c_45 em) _ _ f q (fun _ _ _ _ => rfl) rfl
                    · refine w_aload_n dX11_isText_115 rfl rfl ?_
                      refine w_iload_n dX11_isText_116 rfl rfl ?_
                      refine w_v1 (d2 := 0) (L2 := 0) dX11_isText_117 vX11_205 rfl (q.1.lt (by decide)) rfl (by decide) (Nat.le_of_ble_eq_true rfl) (by decide) (by decide) ?_
                      refine T_sign (by omega) q ?_
                      refine k_i rfl ?_
                      refine w_goto (tgt := 124) dX11_isText_120 (by decide) ?_
                      refine w_istore_n dX11_isText_124 rfl (by decide) ?_
                      have hlt : i < T.length := bT_lt (fun e => by rw [e] at c_31; revert c_31; decide)
                      have em : mnI (bT T (i + 1)) = bT T (i + 1) := by rw [mn_r, if_neg c_58, if_neg c_73, if_neg c_88, if_neg c_102, if_pos c_112]
                      have TX := tx_m (m := m) (l := l) c_19 c_45 (by rw [em]; exact (by rw [c_112]; decide))
                      rw [em] at TX
                      exact L_it2 (by rw [c_112]; decide) (by omega) h9 hx f q (fun h' φ f' q' u' e1 e2 e3 => ih (i + 2) (l ++ [bT T (i + 1)]) h' φ _ (by omega) (by omega) (by rw [List.length_append]; simp only [List.length_cons, List.length_nil]; omega) e2 e3 f' q' (fun r e h9 φ9 f9 q9 u9 => k1 r (TX.trans e) h9 φ9 f9 q9 (u'.tr u9)) (fun e h9 φ9 f9 q9 u9 a9 => k0 (TX.trans e) h9 φ9 f9 q9 (u'.tr u9) (a9.trans e1)))
                · refine w_iconst dX11_isText_91 (v := 0) (by decide) ?_
                  refine w_goto (tgt := 124) dX11_isText_92 (by decide) ?_
                  refine w_istore_n dX11_isText_124 rfl (by decide) ?_
                  have hlt : i < T.length := bT_lt (fun e => by rw [e] at c_31; revert c_31; decide)
                  have em : mnI (bT T (i + 1)) = 0 := by rw [mn_r, if_neg c_58, if_neg c_73, if_pos c_88]
                  have TX := tx_m (m := m) (l := l) c_19 c_45 (by rw [em]; exact (by decide))
                  rw [em] at TX
                  exact L_it2 (by decide) (by omega) h9 hx f q (fun h' φ f' q' u' e1 e2 e3 => ih (i + 2) (l ++ [0]) h' φ _ (by omega) (by omega) (by rw [List.length_append]; simp only [List.length_cons, List.length_nil]; omega) e2 e3 f' q' (fun r e h9 φ9 f9 q9 u9 => k1 r (TX.trans e) h9 φ9 f9 q9 (u'.tr u9)) (fun e h9 φ9 f9 q9 u9 a9 => k0 (TX.trans e) h9 φ9 f9 q9 (u'.tr u9) (a9.trans e1)))
              · refine w_bipush dX11_isText_76 (v := 9) (by decide) ?_
                refine w_goto (tgt := 124) dX11_isText_78 (by decide) ?_
                refine w_istore_n dX11_isText_124 rfl (by decide) ?_
                have hlt : i < T.length := bT_lt (fun e => by rw [e] at c_31; revert c_31; decide)
                have em : mnI (bT T (i + 1)) = 9 := by rw [mn_r, if_neg c_58, if_pos c_73]
                have TX := tx_m (m := m) (l := l) c_19 c_45 (by rw [em]; exact (by decide))
                rw [em] at TX
                exact L_it2 (by decide) (by omega) h9 hx f q (fun h' φ f' q' u' e1 e2 e3 => ih (i + 2) (l ++ [9]) h' φ _ (by omega) (by omega) (by rw [List.length_append]; simp only [List.length_cons, List.length_nil]; omega) e2 e3 f' q' (fun r e h9 φ9 f9 q9 u9 => k1 r (TX.trans e) h9 φ9 f9 q9 (u'.tr u9)) (fun e h9 φ9 f9 q9 u9 a9 => k0 (TX.trans e) h9 φ9 f9 q9 (u'.tr u9) (a9.trans e1)))
            · refine w_bipush dX11_isText_61 (v := 10) (by decide) ?_
              refine w_goto (tgt := 124) dX11_isText_63 (by decide) ?_
              refine w_istore_n dX11_isText_124 rfl (by decide) ?_
              have hlt : i < T.length := bT_lt (fun e => by rw [e] at c_31; revert c_31; decide)
              have em : mnI (bT T (i + 1)) = 10 := by rw [mn_r, if_pos c_58]
              have TX := tx_m (m := m) (l := l) c_19 c_45 (by rw [em]; exact (by decide))
              rw [em] at TX
              exact L_it2 (by decide) (by omega) h9 hx f q (fun h' φ f' q' u' e1 e2 e3 => ih (i + 2) (l ++ [10]) h' φ _ (by omega) (by omega) (by rw [List.length_append]; simp only [List.length_cons, List.length_nil]; omega) e2 e3 f' q' (fun r e h9 φ9 f9 q9 u9 => k1 r (TX.trans e) h9 φ9 f9 q9 (u'.tr u9)) (fun e h9 φ9 f9 q9 u9 a9 => k0 (TX.trans e) h9 φ9 f9 q9 (u'.tr u9) (a9.trans e1)))
        · refine w_iconst dX11_isText_40 (v := 0) (by decide) ?_
          refine w_iret dX11_isText_41 (fun _ e => by cases e; decide) ?_
          exact k0 (tx_g c_19 (fun e => by rw [e] at c_37; revert c_37; decide) (le_not c_37)) _ _ f q (fun _ _ _ _ => rfl) rfl

set_option maxRecDepth 20000 in
set_option maxHeartbeats 4000000 in
/-- isText() -/
theorem T_isTx {X : Nat × (Nat → Int32)} {h0 h : PH} {Q : Option Value → PH → Prop} {T : List Int32} {ψ : Nat → Nat → Int32} {s : Nat} (hs : s < T.length) (np : ψ 25 40 = nI s) (f : Fu h0 h) (q : RU h T ψ) (k1 : ∀ r, txS T (T.length - s) (s + 1) [] = some r → ∀ h' φ, Fu h0 h' → RU h' T φ → UT ψ φ → φ 25 40 = nI r.1 → φ 25 46 = nI r.2.length → (∀ (j : Nat) (v : Int32), r.2[j]? = some v → φ 38 j = v) → Q (some (.int 1)) h') (k0 : txS T (T.length - s) (s + 1) [] = none → ∀ h' φ, Fu h0 h' → RU h' T φ → UT ψ φ → φ 25 40 = ψ 25 40 → Q (some (.int 0)) h') : WP X mX11_isText 1 21 0 (en 3 [.ref 25]) [] h Q := by
  refine w_aload_n dX11_isText_0 rfl rfl ?_
  refine w_iconst dX11_isText_1 (v := 0) (by decide) ?_
  refine u_put (k := 46) (by decide) f q dX11_isText_2 fX11_226 (fun h1 f1 q1 => ?_)
  refine w_aload_n dX11_isText_5 rfl rfl ?_
  refine u_get (k := 40) (by decide) q1 dX11_isText_6 fX11_202 ?_
  refine w_iconst dX11_isText_9 (v := 1) (by decide) ?_
  refine w_iadd dX11_isText_10 ?_
  refine w_istore_n dX11_isText_11 rfl (by decide) ?_
  have hl := q.2.1.1
  rw [uP_k (by decide), np, nI_1]
  have u0 : UT ψ (uP ψ 25 46 0) := fun c k n1 n2 => uP_o (fun e => n2 ⟨e.1, Or.inr e.2⟩)
  exact L_it hl (T.length - s) (s + 1) [] _ _ _ (by omega) (by omega) (by simp only [List.length_nil]; omega) uP_s (fun j v hj => by cases hj) f1 q1 (fun r e h9 φ9 f9 q9 u9 => k1 r e h9 φ9 f9 q9 (u0.tr u9)) (fun e h9 φ9 f9 q9 u9 a9 => k0 e h9 φ9 f9 q9 (u0.tr u9) (a9.trans (uP_k (by decide))))

theorem rk_0 {T : List Int32} {s : Nat} (h : bT T s = -1 ∨ bT T s = 10) : rk T s = 0 := by
  unfold rk
  rw [uC_0 h]
  rcases h with h | h <;> rw [h] <;> rfl
theorem rk_1 {T : List Int32} {s : Nat} (h : ¬ sgI (bT T s) = 0) : rk T s = 1 := by unfold rk; rw [if_neg h]
theorem rk_t {T : List Int32} {s : Nat} (h : sgI (bT T s) = 0) (e : uC T s = 5) : rk T s = 2 := by unfold rk; rw [if_pos h, e]; rfl
theorem rk_b {T : List Int32} {s : Nat} (h : sgI (bT T s) = 0) (e : uC T s = 6) : rk T s = 3 := by unfold rk; rw [if_pos h, e]; rfl
theorem RTK_of {T : List Int32} {s e : Nat} {r : Int32} {ψ : Nat → Nat → Int32} (eE : uE T s = e) (er : nI (rk T s) = r) (a : ψ 25 40 = nI e) (b : ψ 25 41 = r) (c : ψ 25 42 = nI s) (d : ψ 25 43 = nI e) (g : uC T s = 5 → ψ 25 46 = nI (uX T s).length ∧ ∀ (i : Nat) (v : Int32), (uX T s)[i]? = some v → ψ 38 i = v) : RTK T s ψ := by
  subst eE; subst er; exact ⟨a, b, c, d, g⟩
theorem wk_n5 {T : List Int32} {s : Nat} (h : uC T s = wk T s) : ¬ uC T s = 5 := by
  rw [h]; unfold wk
  split
  · decide
  split
  · decide
  split
  · decide
  split <;> decide
set_option maxRecDepth 20000 in
set_option maxHeartbeats 4000000 in
theorem L_n9 {X : Nat × (Nat → Int32)} {h0 h : PH} {Q : Option Value → PH → Prop} {T : List Int32} {ψ : Nat → Nat → Int32} {s : Nat} (hB : Byt T) (hs : s ≤ T.length) (np : ψ 25 40 = nI s) (f : Fu h0 h) (q : RU h T ψ) (k : ∀ h' φ, Fu h0 h' → RU h' T φ → UA ψ φ → RTK T s φ → Q none h') : WP X mX11_next 3 60 77 [some (.ref 25)] [] h Q := by
  have hl := q.2.1.1
  have n2 : uP ψ 25 42 (ψ 25 40) 25 40 = nI s := by rw [uP_k (by decide)]; exact np
  refine w_aload_n dX11_next_77 rfl rfl ?_
  refine w_aload_n dX11_next_78 rfl rfl ?_
  refine u_get (k := 40) (by decide) q dX11_next_79 fX11_202 ?_
  refine u_put (k := 42) (by decide) f q dX11_next_82 fX11_211 (fun h1 f1 q1 => ?_)
  refine w_aload_n dX11_next_85 rfl rfl ?_
  refine u_get (k := 40) (by decide) q1 dX11_next_86 fX11_202 ?_
  refine w_aload_n dX11_next_89 rfl rfl ?_
  refine u_get (k := 39) (by decide) q1 dX11_next_90 fX11_190 ?_
  refine w_icmp_ge (tgt := 109) dX11_next_93 (by decide) (fun c_93 => ?_) (fun c_93 => ?_)
  · rw [n2, uP_k (by decide), q.2.2.1, nI_leI (by omega) (by omega)] at c_93
    refine w_aload_n dX11_next_109 rfl rfl ?_
    refine w_iconst dX11_next_110 (v := 0) (by decide) ?_
    refine u_put (k := 41) (by decide) f1 q1 dX11_next_111 fX11_214 (fun h2 f2 q2 => ?_)
    refine w_goto (tgt := 203) dX11_next_114 (by decide) ?_
    refine w_aload_n dX11_next_203 rfl rfl ?_
    refine w_aload_n dX11_next_204 rfl rfl ?_
    refine u_get (k := 40) (by decide) q2 dX11_next_205 fX11_202 ?_
    refine u_put (k := 43) (by decide) f2 q2 dX11_next_208 fX11_223 (fun h3 f3 q3 => ?_)
    refine w_vret dX11_next_211 ?_
    refine k _ _ f3 q3 ((((UA.rf.p (by decide)).p (by decide)).p (by decide))) (RTK_of (uE_0 (Or.inl (bT_out c_93))) (by rw [rk_0 (Or.inl (bT_out c_93))]) ?_ ?_ ?_ ?_ (fun e => absurd e (by rw [uC_0 (Or.inl (bT_out c_93))]; decide)))
    · rw [uP_k (by decide), uP_k (by decide), uP_k (by decide)]; exact np
    · exact (uP_k (by decide)).trans uP_s
    · rw [uP_k (by decide), uP_k (by decide), uP_s]; exact np
    · rw [uP_s, uP_k (by decide), uP_k (by decide)]; exact np
  · rw [n2, uP_k (by decide), q.2.2.1, nI_leI (by omega) (by omega)] at c_93
    refine w_aload_n dX11_next_96 rfl rfl ?_
    refine w_aload_n dX11_next_97 rfl rfl ?_
    refine u_get (k := 40) (by decide) q1 dX11_next_98 fX11_202 ?_
    refine w_v1 (d2 := 0) (L2 := 0) dX11_next_101 vX11_205 rfl (q1.1.lt (by decide)) rfl (by decide) (Nat.le_of_ble_eq_true rfl) (by decide) (by decide) ?_
    rw [n2]
    refine T_sign (by omega) q1 ?_
    refine k_i rfl ?_
    refine w_bipush dX11_next_104 (v := 10) (by decide) ?_
    refine w_icmp_ne (tgt := 117) dX11_next_106 (by decide) (fun c_106 => ?_) (fun c_106 => ?_)
    · refine w_aload_n dX11_next_117 rfl rfl ?_
      refine w_aload_n dX11_next_118 rfl rfl ?_
      refine u_get (k := 40) (by decide) q1 dX11_next_119 fX11_202 ?_
      refine w_v1 (d2 := 0) (L2 := 0) dX11_next_122 vX11_205 rfl (q1.1.lt (by decide)) rfl (by decide) (Nat.le_of_ble_eq_true rfl) (by decide) (by decide) ?_
      rw [n2]
      refine T_sign (by omega) q1 ?_
      refine k_i rfl ?_
      refine w_s1 (d2 := 2) (L2 := 40) dX11_next_125 vX11_217 rfl (by decide) (Nat.le_of_ble_eq_true rfl) (by decide) (by decide) ?_
      refine T_isWd ?_
      have ew := b_wd (hB.b s)
      cases e_b : isWd (bT T s)
      · refine k_i rfl ?_
        refine w_if_eq (tgt := 166) dX11_next_128 (by decide) (fun c_128 => ?_) (fun c_128 => absurd c_128 (by decide))
        refine w_aload_n dX11_next_166 rfl rfl ?_
        refine w_aload_n dX11_next_167 rfl rfl ?_
        refine u_get (k := 40) (by decide) q1 dX11_next_168 fX11_202 ?_
        refine w_v1 (d2 := 0) (L2 := 0) dX11_next_171 vX11_205 rfl (q1.1.lt (by decide)) rfl (by decide) (Nat.le_of_ble_eq_true rfl) (by decide) (by decide) ?_
        rw [n2]
        refine T_sign (by omega) q1 ?_
        refine k_i rfl ?_
        refine w_bipush dX11_next_174 (v := 34) (by decide) ?_
        refine w_icmp_ne (tgt := 198) dX11_next_176 (by decide) (fun c_176 => ?_) (fun c_176 => ?_)
        · refine w_aload_n dX11_next_198 rfl rfl ?_
          refine w_iconst dX11_next_199 (v := 3) (by decide) ?_
          refine u_put (k := 41) (by decide) f1 q1 dX11_next_200 fX11_214 (fun h4 f4 q4 => ?_)
          refine w_aload_n dX11_next_203 rfl rfl ?_
          refine w_aload_n dX11_next_204 rfl rfl ?_
          refine u_get (k := 40) (by decide) q4 dX11_next_205 fX11_202 ?_
          refine u_put (k := 43) (by decide) f4 q4 dX11_next_208 fX11_223 (fun h5 f5 q5 => ?_)
          refine w_vret dX11_next_211 ?_
          have m1 : ¬ bT T s = -1 := fun e => by have := bT_in hB (show s < T.length by omega); obtain ⟨n, h1, h2⟩ := this; rw [h2] at e; exact absurd (congrArg Int32.toInt e) (by rw [nI_toInt (by omega)]; show ¬ (n : Int) = -1; omega)
          have z0 : sgI (bT T s) = 0 := by rw [e_b] at ew; simpa using ew.symm
          refine k _ _ f5 q5 ((((UA.rf.p (by decide)).p (by decide)).p (by decide))) (RTK_of ((uC_6 m1 c_106 c_176 z0).2) (by rw [rk_b z0 (uC_6 m1 c_106 c_176 z0).1]) ?_ ?_ ?_ ?_ (fun e => absurd e (by rw [(uC_6 m1 c_106 c_176 z0).1]; decide)))
          · rw [uP_k (by decide), uP_k (by decide), uP_k (by decide)]; exact np
          · exact (uP_k (by decide)).trans uP_s
          · rw [uP_k (by decide), uP_k (by decide), uP_s]; exact np
          · rw [uP_s, uP_k (by decide), uP_k (by decide)]; exact np
        · refine w_aload_n dX11_next_179 rfl rfl ?_
          refine w_aload_n dX11_next_180 rfl rfl ?_
          refine w_v0 (d2 := 1) (L2 := 21) dX11_next_181 vX11_220 rfl (q1.1.lt (by decide)) (by decide) (Nat.le_of_ble_eq_true rfl) (by decide) (by decide) ?_
          have c34 : bT T s = 34 := c_176
          have z0 : sgI (bT T s) = 0 := by rw [c34]; rfl
          have m1 : ¬ bT T s = -1 := by rw [c34]; decide
          have m10 : ¬ bT T s = 10 := by rw [c34]; decide
          refine T_isTx (bT_lt m1) n2 f1 q1 (fun r e ha φa fa qa u9 e9 e8 e7 => ?_) (fun e ha φa fa qa u9 e9 => ?_)
          · refine k_i rfl ?_
            refine w_if_eq (tgt := 191) dX11_next_184 (by decide) (fun c_184 => absurd c_184 (by decide)) (fun c_184 => ?_)
            refine w_iconst dX11_next_187 (v := 2) (by decide) ?_
            refine w_goto (tgt := 192) dX11_next_188 (by decide) ?_
            refine u_put (k := 41) (by decide) fa qa dX11_next_192 fX11_214 (fun h6 f6 q6 => ?_)
            refine w_goto (tgt := 203) dX11_next_195 (by decide) ?_
            refine w_aload_n dX11_next_203 rfl rfl ?_
            refine w_aload_n dX11_next_204 rfl rfl ?_
            refine u_get (k := 40) (by decide) q6 dX11_next_205 fX11_202 ?_
            refine u_put (k := 43) (by decide) f6 q6 dX11_next_208 fX11_223 (fun h7 f7 q7 => ?_)
            refine w_vret dX11_next_211 ?_
            have u := uC_5 m1 m10 c34 e
            refine k _ _ f7 q7 ?_ (RTK_of u.2.1 (by rw [rk_t z0 u.1]) ?_ ?_ ?_ ?_ (fun _ => ?_))
            · exact UA.p (UA.p (UA.tr (UA.rf.p (v := ψ 25 40) (k := 42) (by decide)) (fun c k n1 n2 => u9 c k n1 (fun e => n2 ⟨e.1, by omega, by omega⟩))) (by decide)) (by decide)
            · rw [uP_k (by decide), uP_k (by decide)]; exact e9
            · exact (uP_k (by decide)).trans uP_s
            · rw [uP_k (by decide), uP_k (by decide), u9 25 42 (by decide) (by decide), uP_s]; exact np
            · rw [uP_s, uP_k (by decide)]; exact e9
            · have ux : uX T s = r.2 := by unfold uX; rw [e]
              rw [ux]
              exact ⟨by rw [uP_k (by decide), uP_k (by decide)]; exact e8, fun i v hi => by rw [uP_c (by decide), uP_c (by decide)]; exact e7 i v hi⟩
          · refine k_i rfl ?_
            refine w_if_eq (tgt := 191) dX11_next_184 (by decide) (fun c_184 => ?_) (fun c_184 => absurd c_184 (by decide))
            refine w_iconst dX11_next_191 (v := 3) (by decide) ?_
            refine u_put (k := 41) (by decide) fa qa dX11_next_192 fX11_214 (fun h8 f8 q8 => ?_)
            refine w_goto (tgt := 203) dX11_next_195 (by decide) ?_
            refine w_aload_n dX11_next_203 rfl rfl ?_
            refine w_aload_n dX11_next_204 rfl rfl ?_
            refine u_get (k := 40) (by decide) q8 dX11_next_205 fX11_202 ?_
            refine u_put (k := 43) (by decide) f8 q8 dX11_next_208 fX11_223 (fun h9 f9 q9 => ?_)
            refine w_vret dX11_next_211 ?_
            have u := uC_t m1 m10 c34 e
            refine k _ _ f9 q9 ?_ (RTK_of u.2 (by rw [rk_b z0 u.1]) ?_ ?_ ?_ ?_ (fun e => absurd e (by rw [u.1]; decide)))
            · exact UA.p (UA.p (UA.tr (UA.rf.p (v := ψ 25 40) (k := 42) (by decide)) (fun c k n1 n2 => u9 c k n1 (fun e => n2 ⟨e.1, by omega, by omega⟩))) (by decide)) (by decide)
            · rw [uP_k (by decide), uP_k (by decide)]; exact e9.trans n2
            · exact (uP_k (by decide)).trans uP_s
            · rw [uP_k (by decide), uP_k (by decide), u9 25 42 (by decide) (by decide), uP_s]; exact np
            · rw [uP_s, uP_k (by decide)]; exact e9.trans n2
      · refine k_i rfl ?_
        refine w_if_eq (tgt := 166) dX11_next_128 (by decide) (fun c_128 => absurd c_128 (by decide)) (fun c_128 => ?_)
        have hw : ¬ sgI (bT T s) = 0 := by rw [e_b] at ew; simpa using ew.symm
        refine L_n3 hl hB (T.length - s) s _ _ (by omega) n2 f1 q1 (fun h9 φ9 f9 q9 u9 e9 => ?_)
        refine w_aload_n dX11_next_158 rfl rfl ?_
        refine w_iconst dX11_next_159 (v := 1) (by decide) ?_
        refine u_put (k := 41) (by decide) f9 q9 dX11_next_160 fX11_214 (fun h1 f1 q1 => ?_)
        refine w_goto (tgt := 203) dX11_next_163 (by decide) ?_
        refine w_aload_n dX11_next_203 rfl rfl ?_
        refine w_aload_n dX11_next_204 rfl rfl ?_
        refine u_get (k := 40) (by decide) q1 dX11_next_205 fX11_202 ?_
        refine u_put (k := 43) (by decide) f1 q1 dX11_next_208 fX11_223 (fun h2 f2 q2 => ?_)
        refine w_vret dX11_next_211 ?_
        have sw := sg_w hw
        refine k _ _ f2 q2 ?_ (RTK_of sw.2 (by rw [rk_1 hw]) ?_ ?_ ?_ ?_ (fun e => absurd e (wk_n5 sw.1)))
        · exact UA.p (UA.p (UA.tr (UA.rf.p (v := ψ 25 40) (k := 42) (by decide)) (fun c k n1 n2 => u9 c k (fun e => n2 ⟨e.1, by omega, by omega⟩))) (by decide)) (by decide)
        · rw [uP_k (by decide), uP_k (by decide)]; exact e9
        · exact (uP_k (by decide)).trans uP_s
        · rw [uP_k (by decide), uP_k (by decide), u9 25 42 (by decide), uP_s]; exact np
        · rw [uP_s, uP_k (by decide)]; exact e9
    · refine w_aload_n dX11_next_109 rfl rfl ?_
      refine w_iconst dX11_next_110 (v := 0) (by decide) ?_
      refine u_put (k := 41) (by decide) f1 q1 dX11_next_111 fX11_214 (fun h3 f3 q3 => ?_)
      refine w_goto (tgt := 203) dX11_next_114 (by decide) ?_
      refine w_aload_n dX11_next_203 rfl rfl ?_
      refine w_aload_n dX11_next_204 rfl rfl ?_
      refine u_get (k := 40) (by decide) q3 dX11_next_205 fX11_202 ?_
      refine u_put (k := 43) (by decide) f3 q3 dX11_next_208 fX11_223 (fun h4 f4 q4 => ?_)
      refine w_vret dX11_next_211 ?_
      refine k _ _ f4 q4 ((((UA.rf.p (by decide)).p (by decide)).p (by decide))) (RTK_of (uE_0 (Or.inr c_106)) (by rw [rk_0 (Or.inr c_106)]) ?_ ?_ ?_ ?_ (fun e => absurd e (by rw [uC_0 (Or.inr c_106)]; decide)))
      · rw [uP_k (by decide), uP_k (by decide), uP_k (by decide)]; exact np
      · exact (uP_k (by decide)).trans uP_s
      · rw [uP_k (by decide), uP_k (by decide), uP_s]; exact np
      · rw [uP_s, uP_k (by decide), uP_k (by decide)]; exact np

set_option maxRecDepth 20000 in
set_option maxHeartbeats 4000000 in
theorem T_next {X : Nat × (Nat → Int32)} {h0 h : PH} {Q : Option Value → PH → Prop} {T : List Int32} {ψ : Nat → Nat → Int32} {p : Nat} (hB : Byt T) (hp2 : p ≤ T.length) (hp : ψ 25 40 = nI p) (f : Fu h0 h) (q : RU h T ψ) (k : ∀ h' φ, Fu h0 h' → RU h' T φ → UA ψ φ → RTK T (nx T p) φ → Q none h') : WP X mX11_next 3 60 0 (en 1 [.ref 25]) [] h Q := by
  have hl := q.2.1.1
  have b1 := skB_p T (T.length - p) p (by omega)
  refine L_n1 hl (T.length - p) p _ _ (by omega) hp f q (fun ha φa fa qa ua ea => ?_)
  have es : skB T (T.length - p) p = sk1 T p := rfl
  rw [es] at ea b1
  refine w_aload_n dX11_next_27 rfl rfl ?_
  refine w_aload_n dX11_next_28 rfl rfl ?_
  refine u_get (k := 40) (by decide) qa dX11_next_29 fX11_202 ?_
  refine w_v1 (d2 := 0) (L2 := 0) dX11_next_32 vX11_205 rfl (qa.1.lt (by decide)) rfl (by decide) (Nat.le_of_ble_eq_true rfl) (by decide) (by decide) ?_
  rw [ea]
  refine T_sign (by omega) qa ?_
  refine k_i rfl ?_
  refine w_bipush dX11_next_35 (v := 59) (by decide) ?_
  refine w_icmp_ne (tgt := 77) dX11_next_37 (by decide) (fun c_37 => ?_) (fun c_37 => ?_)
  · exact L_n9 (s := sk1 T p) hB (by omega) ea fa qa (fun h9 φ9 f9 q9 u9 t9 => k h9 φ9 f9 q9 (ua.tr u9) (by unfold nx; rw [if_neg c_37]; exact t9))
  · refine L_n2 hl (T.length - sk1 T p) (sk1 T p) _ _ (by omega) ea fa qa (fun hb φb fb qb ub eb => ?_)
    have b2 := skC_p T (T.length - sk1 T p) (sk1 T p) (by omega)
    have en : nx T p = skC T (T.length - sk1 T p) (sk1 T p) := by unfold nx; rw [if_pos c_37]
    rw [← en] at eb b2
    exact L_n9 hB b2.2 eb fb qb (fun h9 φ9 f9 q9 u9 t9 => k h9 φ9 f9 q9 ((ua.tr ub).tr u9) t9)

