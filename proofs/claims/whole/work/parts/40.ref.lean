/-! THE REFERENCE READS: bytes -/
set_option maxRecDepth 20000 in
set_option maxHeartbeats 4000000 in
theorem T_gr {X : Nat × (Nat → Int32)} {h : PH} {Q : Option Value → PH → Prop} {b : Int32} (k : Q (some (.int (gr b))) h) : WP X mX11_great 0 0 0 (en 1 [.int b]) [] h Q := by
  refine w_iload_n dX11_great_0 rfl rfl ?_
  refine w_bipush dX11_great_1 (v := 97) (by decide) ?_
  refine w_icmp_lt (tgt := 19) dX11_great_3 (by decide) (fun c_3 => ?_) (fun c_3 => ?_)
  · refine w_iload_n dX11_great_19 rfl rfl ?_
    refine w_iret dX11_great_20 (fun _ e => by cases e; rfl) ?_
    rw [gr] at k; simp only [if_pos c_3] at k; exact k
  · refine w_iload_n dX11_great_6 rfl rfl ?_
    refine w_bipush dX11_great_7 (v := 122) (by decide) ?_
    refine w_icmp_gt (tgt := 19) dX11_great_9 (by decide) (fun c_9 => ?_) (fun c_9 => ?_)
    · refine w_iload_n dX11_great_19 rfl rfl ?_
      refine w_iret dX11_great_20 (fun _ e => by cases e; rfl) ?_
      rw [gr] at k; simp only [if_neg c_3, if_pos c_9] at k; exact k
    · refine w_iload_n dX11_great_12 rfl rfl ?_
      refine w_bipush dX11_great_13 (v := 32) (by decide) ?_
      refine w_isub dX11_great_15 ?_
      refine w_goto (tgt := 20) dX11_great_16 (by decide) ?_
      refine w_iret dX11_great_20 (fun _ e => by cases e; rfl) ?_
      rw [gr] at k; simp only [if_neg c_3, if_neg c_9] at k; exact k

set_option maxRecDepth 20000 in
set_option maxHeartbeats 4000000 in
theorem T_isDg {X : Nat × (Nat → Int32)} {h : PH} {Q : Option Value → PH → Prop} {b : Int32} (k : Q (some (.int (if isDg b then 1 else 0))) h) : WP X mX11_isDigit 0 0 0 (en 1 [.int b]) [] h Q := by
  refine w_iload_n dX11_isDigit_0 rfl rfl ?_
  refine w_bipush dX11_isDigit_1 (v := 48) (by decide) ?_
  refine w_icmp_lt (tgt := 16) dX11_isDigit_3 (by decide) (fun c_3 => ?_) (fun c_3 => ?_)
  · refine w_iconst dX11_isDigit_16 (v := 0) (by decide) ?_
    refine w_iret dX11_isDigit_17 (fun _ e => by cases e; decide) ?_
    simpa [isDg, c_3] using k
  · refine w_iload_n dX11_isDigit_6 rfl rfl ?_
    refine w_bipush dX11_isDigit_7 (v := 57) (by decide) ?_
    refine w_icmp_gt (tgt := 16) dX11_isDigit_9 (by decide) (fun c_9 => ?_) (fun c_9 => ?_)
    · refine w_iconst dX11_isDigit_16 (v := 0) (by decide) ?_
      refine w_iret dX11_isDigit_17 (fun _ e => by cases e; decide) ?_
      simpa [isDg, c_3, c_9] using k
    · refine w_iconst dX11_isDigit_12 (v := 1) (by decide) ?_
      refine w_goto (tgt := 17) dX11_isDigit_13 (by decide) ?_
      refine w_iret dX11_isDigit_17 (fun _ e => by cases e; decide) ?_
      simpa [isDg, c_3, c_9] using k

set_option maxRecDepth 20000 in
set_option maxHeartbeats 4000000 in
theorem T_isLt {X : Nat × (Nat → Int32)} {h : PH} {Q : Option Value → PH → Prop} {b : Int32} (k : Q (some (.int (if isLt b then 1 else 0))) h) : WP X mX11_isLetter 1 20 0 (en 1 [.int b]) [] h Q := by
  refine w_iload_n dX11_isLetter_0 rfl rfl ?_
  refine w_s1 (d2 := 0) (L2 := 0) dX11_isLetter_1 vX11_193 rfl (by decide) (Nat.le_of_ble_eq_true rfl) (by decide) (by decide) ?_
  refine T_gr ?_
  refine k_i rfl ?_
  refine w_bipush dX11_isLetter_4 (v := 65) (by decide) ?_
  refine w_icmp_lt (tgt := 22) dX11_isLetter_6 (by decide) (fun c_6 => ?_) (fun c_6 => ?_)
  · refine w_iconst dX11_isLetter_22 (v := 0) (by decide) ?_
    refine w_iret dX11_isLetter_23 (fun _ e => by cases e; decide) ?_
    simpa [isLt, c_6] using k
  · refine w_iload_n dX11_isLetter_9 rfl rfl ?_
    refine w_s1 (d2 := 0) (L2 := 0) dX11_isLetter_10 vX11_193 rfl (by decide) (Nat.le_of_ble_eq_true rfl) (by decide) (by decide) ?_
    refine T_gr ?_
    refine k_i rfl ?_
    refine w_bipush dX11_isLetter_13 (v := 90) (by decide) ?_
    refine w_icmp_gt (tgt := 22) dX11_isLetter_15 (by decide) (fun c_15 => ?_) (fun c_15 => ?_)
    · refine w_iconst dX11_isLetter_22 (v := 0) (by decide) ?_
      refine w_iret dX11_isLetter_23 (fun _ e => by cases e; decide) ?_
      simpa [isLt, c_6, c_15] using k
    · refine w_iconst dX11_isLetter_18 (v := 1) (by decide) ?_
      refine w_goto (tgt := 23) dX11_isLetter_19 (by decide) ?_
      refine w_iret dX11_isLetter_23 (fun _ e => by cases e; decide) ?_
      simpa [isLt, c_6, c_15] using k

set_option maxRecDepth 20000 in
set_option maxHeartbeats 4000000 in
theorem T_isWd {X : Nat × (Nat → Int32)} {h : PH} {Q : Option Value → PH → Prop} {b : Int32} (k : Q (some (.int (if isWd b then 1 else 0))) h) : WP X mX11_isOfWord 2 40 0 (en 1 [.int b]) [] h Q := by
  refine w_iload_n dX11_isOfWord_0 rfl rfl ?_
  refine w_s1 (d2 := 1) (L2 := 20) dX11_isOfWord_1 vX11_196 rfl (by decide) (Nat.le_of_ble_eq_true rfl) (by decide) (by decide) ?_
  refine T_isLt ?_
  cases e_isLt : isLt b
  · refine k_i rfl ?_
    refine w_if_ne (tgt := 38) dX11_isOfWord_4 (by decide) (fun c_4 => absurd c_4 (by decide)) (fun c_4 => ?_)
    refine w_iload_n dX11_isOfWord_7 rfl rfl ?_
    refine w_s1 (d2 := 0) (L2 := 0) dX11_isOfWord_8 vX11_199 rfl (by decide) (Nat.le_of_ble_eq_true rfl) (by decide) (by decide) ?_
    refine T_isDg ?_
    cases e_isDg : isDg b
    · refine k_i rfl ?_
      refine w_if_ne (tgt := 38) dX11_isOfWord_11 (by decide) (fun c_11 => absurd c_11 (by decide)) (fun c_11 => ?_)
      refine w_iload_n dX11_isOfWord_14 rfl rfl ?_
      refine w_bipush dX11_isOfWord_15 (v := 95) (by decide) ?_
      refine w_icmp_eq (tgt := 38) dX11_isOfWord_17 (by decide) (fun c_17 => ?_) (fun c_17 => ?_)
      · refine w_iconst dX11_isOfWord_38 (v := 1) (by decide) ?_
        refine w_goto (tgt := 43) dX11_isOfWord_39 (by decide) ?_
        refine w_iret dX11_isOfWord_43 (fun _ e => by cases e; decide) ?_
        simpa [isWd, e_isLt, c_4, e_isDg, c_11, c_17] using k
      · refine w_iload_n dX11_isOfWord_20 rfl rfl ?_
        refine w_bipush dX11_isOfWord_21 (v := 46) (by decide) ?_
        refine w_icmp_eq (tgt := 38) dX11_isOfWord_23 (by decide) (fun c_23 => ?_) (fun c_23 => ?_)
        · refine w_iconst dX11_isOfWord_38 (v := 1) (by decide) ?_
          refine w_goto (tgt := 43) dX11_isOfWord_39 (by decide) ?_
          refine w_iret dX11_isOfWord_43 (fun _ e => by cases e; decide) ?_
          simpa [isWd, e_isLt, c_4, e_isDg, c_11, c_17, c_23] using k
        · refine w_iload_n dX11_isOfWord_26 rfl rfl ?_
          refine w_bipush dX11_isOfWord_27 (v := 35) (by decide) ?_
          refine w_icmp_eq (tgt := 38) dX11_isOfWord_29 (by decide) (fun c_29 => ?_) (fun c_29 => ?_)
          · refine w_iconst dX11_isOfWord_38 (v := 1) (by decide) ?_
            refine w_goto (tgt := 43) dX11_isOfWord_39 (by decide) ?_
            refine w_iret dX11_isOfWord_43 (fun _ e => by cases e; decide) ?_
            simpa [isWd, e_isLt, c_4, e_isDg, c_11, c_17, c_23, c_29] using k
          · refine w_iload_n dX11_isOfWord_32 rfl rfl ?_
            refine w_bipush dX11_isOfWord_33 (v := 45) (by decide) ?_
            refine w_icmp_ne (tgt := 42) dX11_isOfWord_35 (by decide) (fun c_35 => ?_) (fun c_35 => ?_)
            · refine w_iconst dX11_isOfWord_42 (v := 0) (by decide) ?_
              refine w_iret dX11_isOfWord_43 (fun _ e => by cases e; decide) ?_
              simpa [isWd, e_isLt, c_4, e_isDg, c_11, c_17, c_23, c_29, c_35] using k
            · refine w_iconst dX11_isOfWord_38 (v := 1) (by decide) ?_
              refine w_goto (tgt := 43) dX11_isOfWord_39 (by decide) ?_
              refine w_iret dX11_isOfWord_43 (fun _ e => by cases e; decide) ?_
              simpa [isWd, e_isLt, c_4, e_isDg, c_11, c_17, c_23, c_29, c_35] using k
    · refine k_i rfl ?_
      refine w_if_ne (tgt := 38) dX11_isOfWord_11 (by decide) (fun c_11 => ?_) (fun c_11 => absurd c_11 (by decide))
      refine w_iconst dX11_isOfWord_38 (v := 1) (by decide) ?_
      refine w_goto (tgt := 43) dX11_isOfWord_39 (by decide) ?_
      refine w_iret dX11_isOfWord_43 (fun _ e => by cases e; decide) ?_
      simpa [isWd, e_isLt, c_4, e_isDg, c_11] using k
  · refine k_i rfl ?_
    refine w_if_ne (tgt := 38) dX11_isOfWord_4 (by decide) (fun c_4 => ?_) (fun c_4 => absurd c_4 (by decide))
    refine w_iconst dX11_isOfWord_38 (v := 1) (by decide) ?_
    refine w_goto (tgt := 43) dX11_isOfWord_39 (by decide) ?_
    refine w_iret dX11_isOfWord_43 (fun _ e => by cases e; decide) ?_
    simpa [isWd, e_isLt, c_4] using k

def isBl (b : Int32) : Bool := decide (b = 9) || decide (b = 13) || decide (b = 32) || decide (b = 44)
set_option maxRecDepth 20000 in
set_option maxHeartbeats 4000000 in
theorem T_isBl {X : Nat × (Nat → Int32)} {h : PH} {Q : Option Value → PH → Prop} {b : Int32} (k : Q (some (.int (if isBl b then 1 else 0))) h) : WP X mX11_isBlank 0 0 0 (en 1 [.int b]) [] h Q := by
  refine w_iload_n dX11_isBlank_0 rfl rfl ?_
  refine w_bipush dX11_isBlank_1 (v := 9) (by decide) ?_
  refine w_icmp_eq (tgt := 24) dX11_isBlank_3 (by decide) (fun c_3 => ?_) (fun c_3 => ?_)
  · refine w_iconst dX11_isBlank_24 (v := 1) (by decide) ?_
    refine w_goto (tgt := 29) dX11_isBlank_25 (by decide) ?_
    refine w_iret dX11_isBlank_29 (fun _ e => by cases e; decide) ?_
    simpa [isBl, c_3] using k
  · refine w_iload_n dX11_isBlank_6 rfl rfl ?_
    refine w_bipush dX11_isBlank_7 (v := 13) (by decide) ?_
    refine w_icmp_eq (tgt := 24) dX11_isBlank_9 (by decide) (fun c_9 => ?_) (fun c_9 => ?_)
    · refine w_iconst dX11_isBlank_24 (v := 1) (by decide) ?_
      refine w_goto (tgt := 29) dX11_isBlank_25 (by decide) ?_
      refine w_iret dX11_isBlank_29 (fun _ e => by cases e; decide) ?_
      simpa [isBl, c_3, c_9] using k
    · refine w_iload_n dX11_isBlank_12 rfl rfl ?_
      refine w_bipush dX11_isBlank_13 (v := 32) (by decide) ?_
      refine w_icmp_eq (tgt := 24) dX11_isBlank_15 (by decide) (fun c_15 => ?_) (fun c_15 => ?_)
      · refine w_iconst dX11_isBlank_24 (v := 1) (by decide) ?_
        refine w_goto (tgt := 29) dX11_isBlank_25 (by decide) ?_
        refine w_iret dX11_isBlank_29 (fun _ e => by cases e; decide) ?_
        simpa [isBl, c_3, c_9, c_15] using k
      · refine w_iload_n dX11_isBlank_18 rfl rfl ?_
        refine w_bipush dX11_isBlank_19 (v := 44) (by decide) ?_
        refine w_icmp_ne (tgt := 28) dX11_isBlank_21 (by decide) (fun c_21 => ?_) (fun c_21 => ?_)
        · refine w_iconst dX11_isBlank_28 (v := 0) (by decide) ?_
          refine w_iret dX11_isBlank_29 (fun _ e => by cases e; decide) ?_
          simpa [isBl, c_3, c_9, c_15, c_21] using k
        · refine w_iconst dX11_isBlank_24 (v := 1) (by decide) ?_
          refine w_goto (tgt := 29) dX11_isBlank_25 (by decide) ?_
          refine w_iret dX11_isBlank_29 (fun _ e => by cases e; decide) ?_
          simpa [isBl, c_3, c_9, c_15, c_21] using k

set_option maxRecDepth 20000 in
set_option maxHeartbeats 4000000 in
theorem T_fgr {X : Nat × (Nat → Int32)} {h : PH} {Q : Option Value → PH → Prop} {b : Int32} (k : Q (some (.int (fgr b))) h) : WP X mX11_figure 1 20 0 (en 2 [.int b]) [] h Q := by
  refine w_iload_n dX11_figure_0 rfl rfl ?_
  refine w_s1 (d2 := 0) (L2 := 0) dX11_figure_1 vX11_193 rfl (by decide) (Nat.le_of_ble_eq_true rfl) (by decide) (by decide) ?_
  refine T_gr ?_
  refine k_i rfl ?_
  refine w_istore_n dX11_figure_4 rfl (by decide) ?_
  refine w_iload_n dX11_figure_5 rfl rfl ?_
  refine w_s1 (d2 := 0) (L2 := 0) dX11_figure_6 vX11_199 rfl (by decide) (Nat.le_of_ble_eq_true rfl) (by decide) (by decide) ?_
  refine T_isDg ?_
  cases e_isDg : isDg b
  · refine k_i rfl ?_
    refine w_if_eq (tgt := 19) dX11_figure_9 (by decide) (fun c_9 => ?_) (fun c_9 => absurd c_9 (by decide))
    refine w_iload_n dX11_figure_19 rfl rfl ?_
    refine w_bipush dX11_figure_20 (v := 65) (by decide) ?_
    refine w_icmp_lt (tgt := 41) dX11_figure_22 (by decide) (fun c_22 => ?_) (fun c_22 => ?_)
    · refine w_iconst dX11_figure_41 (v := (-1)) (by decide) ?_
      refine w_iret dX11_figure_42 (fun _ e => by cases e; rfl) ?_
      simpa [fgr, e_isDg, c_9, c_22] using k
    · refine w_iload_n dX11_figure_25 rfl rfl ?_
      refine w_bipush dX11_figure_26 (v := 70) (by decide) ?_
      refine w_icmp_gt (tgt := 41) dX11_figure_28 (by decide) (fun c_28 => ?_) (fun c_28 => ?_)
      · refine w_iconst dX11_figure_41 (v := (-1)) (by decide) ?_
        refine w_iret dX11_figure_42 (fun _ e => by cases e; rfl) ?_
        simpa [fgr, e_isDg, c_9, c_22, c_28] using k
      · refine w_iload_n dX11_figure_31 rfl rfl ?_
        refine w_bipush dX11_figure_32 (v := 65) (by decide) ?_
        refine w_isub dX11_figure_34 ?_
        refine w_bipush dX11_figure_35 (v := 10) (by decide) ?_
        refine w_iadd dX11_figure_37 ?_
        refine w_goto (tgt := 42) dX11_figure_38 (by decide) ?_
        refine w_iret dX11_figure_42 (fun _ e => by cases e; rfl) ?_
        simpa [fgr, e_isDg, c_9, c_22, c_28] using k
  · refine k_i rfl ?_
    refine w_if_eq (tgt := 19) dX11_figure_9 (by decide) (fun c_9 => absurd c_9 (by decide)) (fun c_9 => ?_)
    refine w_iload_n dX11_figure_12 rfl rfl ?_
    refine w_bipush dX11_figure_13 (v := 48) (by decide) ?_
    refine w_isub dX11_figure_15 ?_
    refine w_goto (tgt := 42) dX11_figure_16 (by decide) ?_
    refine w_iret dX11_figure_42 (fun _ e => by cases e; rfl) ?_
    simpa [fgr, e_isDg, c_9] using k

/-! THE REFERENCE's state while it reads: ψ c k, of its fields (25, from 20 on) and its rows 31 to 36, 38 -/
def uCs : List Nat := [31, 32, 33, 34, 35, 36, 38]
def RU (h : PH) (T : List Int32) (ψ : Nat → Nat → Int32) : Prop := St h ∧ (T.length ≤ 4000 ∧ ∀ (i : Nat) (v : Int32), T[i]? = some v → hI h 30 i = v) ∧ ψ 25 39 = nI T.length ∧ (∀ k, 20 ≤ k → hI h 25 k = ψ 25 k) ∧ ∀ c, c ∈ uCs → ∀ i, hI h c i = ψ c i
def Fu (h h' : PH) : Prop := Sm [25, 31, 32, 33, 34, 35, 36, 38] h h' ∧ ∀ k, k < 20 → hI h' 25 k = hI h 25 k
theorem Fu.rf {h : PH} : Fu h h := ⟨Sm.rf, fun _ _ => rfl⟩
theorem Fu.tr {h h1 h2 : PH} (q : Fu h h1) (r : Fu h1 h2) : Fu h h2 := ⟨q.1.tr r.1, fun k hk => (r.2 k hk).trans (q.2 k hk)⟩
def uP (ψ : Nat → Nat → Int32) (c k : Nat) (v : Int32) : Nat → Nat → Int32 := fun c' k' => if c' = c then (if k' = k then v else ψ c' k') else ψ c' k'
theorem uP_s {ψ : Nat → Nat → Int32} {c k : Nat} {v : Int32} : uP ψ c k v c k = v := by unfold uP; rw [if_pos rfl, if_pos rfl]
theorem uP_k {ψ : Nat → Nat → Int32} {c k j : Nat} {v : Int32} (h : j ≠ k) : uP ψ c k v c j = ψ c j := by unfold uP; rw [if_pos rfl, if_neg h]
theorem uP_c {ψ : Nat → Nat → Int32} {c k e j : Nat} {v : Int32} (h : e ≠ c) : uP ψ c k v e j = ψ e j := by unfold uP; rw [if_neg h]
section
variable {X : Nat × (Nat → Int32)} {M : MR} {d L pc idx : Nat} {ls : List (Option Value)} {st : List Value} {h0 h : PH} {Q : Option Value → PH → Prop} {T : List Int32} {ψ : Nat → Nat → Int32} {ty : FieldType} {k c : Nat} {v i : Int32} {f9 : Bool}
theorem RU.pf (q : RU h T ψ) (hk : 20 ≤ k) (h9 : k ≠ 39) : RU (sI h 25 k v) T (uP ψ 25 k v) := by
  refine ⟨q.1.i, ⟨q.2.1.1, fun i w hw => (rI_a (by decide)).trans (q.2.1.2 i w hw)⟩, (uP_k (Ne.symm h9)).trans q.2.2.1, fun j hj => ?_, fun c hc j => ?_⟩
  · by_cases e : j = k
    · subst e; rw [uP_s, rI, if_pos rfl, if_pos rfl]
    · rw [uP_k e, rI_k e]; exact q.2.2.2.1 j hj
  · have e : c ≠ 25 := fun e => by subst e; revert hc; decide
    rw [uP_c e, rI_a e]; exact q.2.2.2.2 c hc j
theorem Fu.pf (f : Fu h0 h) (hk : 20 ≤ k) : Fu h0 (sI h 25 k v) := ⟨f.1.i (by decide), fun j hj => (rI_k (by omega)).trans (f.2 j hj)⟩
theorem u_get (hk : 20 ≤ k ∧ fk 10 k = 0) (q : RU h T ψ) (hd : decode M.2.1 pc = .ok (.getfield idx, 3)) (hf : FL M.1 idx 10 k ty f9) (kk : WP X M d L (pc + 3) ls (.int (ψ 25 k) :: st) h Q) : WP X M d L pc ls (.ref 25 :: st) h Q := w_gi q.1 hd hf hk.2 rfl (by decide) (by rw [q.2.2.2.1 k hk.1]; exact kk)
theorem u_put (hk : 20 ≤ k ∧ k ≠ 39 ∧ fk 10 k = 0) (f : Fu h0 h) (q : RU h T ψ) (hd : decode M.2.1 pc = .ok (.putfield idx, 3)) (hf : FL M.1 idx 10 k .int false) (kk : ∀ h', Fu h0 h' → RU h' T (uP ψ 25 k v) → WP X M d L (pc + 3) ls st h' Q) : WP X M d L pc ls (.int v :: .ref 25 :: st) h Q :=
  w_pi q.1 hd hf hk.2.2 rfl (by decide) (kk _ (f.pf hk.1) (q.pf hk.1 hk.2.1))
theorem u_putz (hk : 20 ≤ k ∧ k ≠ 39 ∧ fk 10 k = 0) (hz : v = 0 ∨ v = 1) (f : Fu h0 h) (q : RU h T ψ) (hd : decode M.2.1 pc = .ok (.putfield idx, 3)) (hf : FL M.1 idx 10 k .boolean false) (kk : ∀ h', Fu h0 h' → RU h' T (uP ψ 25 k v) → WP X M d L (pc + 3) ls st h' Q) : WP X M d L pc ls (.int v :: .ref 25 :: st) h Q :=
  w_pz q.1 hd hf hz hk.2.2 rfl (by decide) (kk _ (f.pf hk.1) (q.pf hk.1 hk.2.1))
end
