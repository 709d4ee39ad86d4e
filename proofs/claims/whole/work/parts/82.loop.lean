/-! THE LAW's LOOP, and the start of it all -/
theorem lp_cmp {L n : Nat} (hL9 : L ≤ 3072) (hn9 : n ≤ 3072) (h : ¬ Int32.ofNat L - 6 < nI n) : n + 6 ≤ L := by
  by_cases c : 6 ≤ L
  · have e : Int32.ofNat L - 6 = nI (L - 6) := nI_sub (b := 6) c
    rw [e] at h
    have := Nat.not_lt.mp (fun z => h (nI_lt z (by omega)))
    omega
  · refine absurd (Int32.lt_of_lt_of_le (b := 0) ?_ ?_) h
    · have : ∀ L, L < 6 → Int32.ofNat L - 6 < 0 := by decide
      exact this L (by omega)
    · rw [← nI_0]; exact nI_le (Nat.zero_le _) (by omega)
/-- what is left of the room at the end -/
def FN (h : PH) : Prop := hc h ≤ 601024 ∧ hs h ≤ 7293033
theorem zS_le : zS ≤ 200000 := by decide +kernel
theorem JJ.fin {e : Nat} {h : PH} {σ τ : MS} {T L : List Int32} {κ : KE} (j : JJ e h σ τ T L κ) (he : e ≤ 1000) : FN h := by
  obtain ⟨⟨⟨b1, b2⟩, q, -⟩, -⟩ := j
  have h1 : hn h ≤ 296 := by have := q.2.1.2.2.1; omega
  have := zS_le
  exact ⟨by omega, by omega⟩
set_option maxHeartbeats 4000000 in
theorem L_law {X : Nat × (Nat → Int32)} {Q : Option Value → PH → Prop} (hX1 : X.1 ≤ 3072) (kq : ∀ h, FN h → Q (some (.int 1)) h) : ∀ (m n e : Nat) (h : PH) (σ τ : MS) (T L : List Int32) (κ : KE) (a5 a6 : Option Value), X.1 ≤ n + 6 * m → n ≤ 3072 → e + m ≤ 600 → JJ e h σ τ T L κ → WP X mL_law 16 614 23 (lwl (nI n) a5 a6) [] h Q := by
  intro m
  induction m with
  | zero =>
    intro n e h σ τ T L κ a5 a6 h1 h2 h3 j
    refine w_iload dL_law_23 rfl ?_
    refine w_aload_n dL_law_25 rfl rfl ?_
    refine w_slen dL_law_26 ?_
    refine w_bipush dL_law_27 (v := 6) (by decide) ?_
    refine w_isub dL_law_29 ?_
    refine w_icmp_gt (tgt := 838) dL_law_30 (by decide) (fun _ => ?_) (fun c => absurd (lp_cmp hX1 h2 c) (by omega))
    refine w_iconst dL_law_838 (v := 1) (by decide) ?_
    refine w_iret dL_law_839 (fun _ e => by cases e; decide) ?_
    exact kq h (j.fin (by omega))
  | succ m ih =>
    intro n e h σ τ T L κ a5 a6 h1 h2 h3 j
    refine w_iload dL_law_23 rfl ?_
    refine w_aload_n dL_law_25 rfl rfl ?_
    refine w_slen dL_law_26 ?_
    refine w_bipush dL_law_27 (v := 6) (by decide) ?_
    refine w_isub dL_law_29 ?_
    refine w_icmp_gt (tgt := 838) dL_law_30 (by decide) (fun _ => ?_) (fun c => ?_)
    · refine w_iconst dL_law_838 (v := 1) (by decide) ?_
      refine w_iret dL_law_839 (fun _ e => by cases e; decide) ?_
      exact kq h (j.fin (by omega))
    have hl := lp_cmp hX1 h2 c
    have kk : KK X Q e (nI n) := by
      intro e' h' σ' τ' T' L' κ' b5 b6 he j'
      refine w_iinc (v := nI (n + 6)) dL_law_832 rfl (nI_add n 6) (by decide) ?_
      show WP X mL_law 16 614 _ (lwl (nI (n + 6)) b5 b6) [] h' Q
      refine w_goto (tgt := 23) dL_law_835 (by decide) ?_
      exact ih (n + 6) e' h' σ' τ' T' L' κ' b5 b6 (by omega) (by omega) (by omega) j'
    have hs : SC X (nI n) := ⟨by rw [show nI n + 1 = nI (n + 1) from nI_add n 1]; exact nI_in (by omega) (by omega), by rw [show nI n + 2 = nI (n + 2) from nI_add n 2]; exact nI_in (by omega) (by omega), by rw [show nI n + 3 = nI (n + 3) from nI_add n 3]; exact nI_in (by omega) (by omega), by rw [show nI n + 4 = nI (n + 4) from nI_add n 4]; exact nI_in (by omega) (by omega), by rw [show nI n + 5 = nI (n + 5) from nI_add n 5]; exact nI_in (by omega) (by omega)⟩
    refine w_aload_n dL_law_33 rfl rfl ?_
    refine w_iload dL_law_34 rfl ?_
    refine w_sld dL_law_36 (nI_in (by omega) (by omega)) ?_
    refine w_bipush dL_law_37 (v := 31) (by decide) ?_
    refine w_iand dL_law_39 ?_
    by_cases s_0 : (X.2 (nI n).toNatClampNeg &&& 31) = 0
    · refine w_tbE (off := 96) (tgt := 136) s_0 dL_law_40 (by decide) (by decide) (by decide) (by decide) ?_
      exact C_feed hs j kk
    by_cases s_1 : (X.2 (nI n).toNatClampNeg &&& 31) = 1
    · refine w_tbE (off := 169) (tgt := 209) s_1 dL_law_40 (by decide) (by decide) (by decide) (by decide) ?_
      exact C_end hs j kk
    by_cases s_2 : (X.2 (nI n).toNatClampNeg &&& 31) = 2
    · refine w_tbE (off := 194) (tgt := 234) s_2 dL_law_40 (by decide) (by decide) (by decide) (by decide) ?_
      exact C_assemble hs j kk
    by_cases s_3 : (X.2 (nI n).toNatClampNeg &&& 31) = 3
    · refine w_tbE (off := 207) (tgt := 247) s_3 dL_law_40 (by decide) (by decide) (by decide) (by decide) ?_
      exact C_told hs j kk
    by_cases s_4 : (X.2 (nI n).toNatClampNeg &&& 31) = 4
    · refine w_tbE (off := 263) (tgt := 303) s_4 dL_law_40 (by decide) (by decide) (by decide) (by decide) ?_
      exact C_word hs j kk
    by_cases s_5 : (X.2 (nI n).toNatClampNeg &&& 31) = 5
    · refine w_tbE (off := 319) (tgt := 359) s_5 dL_law_40 (by decide) (by decide) (by decide) (by decide) ?_
      exact C_label hs j kk
    by_cases s_6 : (X.2 (nI n).toNatClampNeg &&& 31) = 6
    · refine w_tbE (off := 375) (tgt := 415) s_6 dL_law_40 (by decide) (by decide) (by decide) (by decide) ?_
      exact C_load hs j kk
    by_cases s_7 : (X.2 (nI n).toNatClampNeg &&& 31) = 7
    · refine w_tbE (off := 388) (tgt := 428) s_7 dL_law_40 (by decide) (by decide) (by decide) (by decide) ?_
      exact C_key hs j kk
    by_cases s_8 : (X.2 (nI n).toNatClampNeg &&& 31) = 8
    · refine w_tbE (off := 413) (tgt := 453) s_8 dL_law_40 (by decide) (by decide) (by decide) (by decide) ?_
      exact C_run hs j kk
    by_cases s_9 : (X.2 (nI n).toNatClampNeg &&& 31) = 9
    · refine w_tbE (off := 469) (tgt := 509) s_9 dL_law_40 (by decide) (by decide) (by decide) (by decide) ?_
      exact C_state hs j kk
    by_cases s_10 : (X.2 (nI n).toNatClampNeg &&& 31) = 10
    · refine w_tbE (off := 482) (tgt := 522) s_10 dL_law_40 (by decide) (by decide) (by decide) (by decide) ?_
      exact C_register hs j kk
    by_cases s_11 : (X.2 (nI n).toNatClampNeg &&& 31) = 11
    · refine w_tbE (off := 538) (tgt := 578) s_11 dL_law_40 (by decide) (by decide) (by decide) (by decide) ?_
      exact C_set hs j kk
    by_cases s_12 : (X.2 (nI n).toNatClampNeg &&& 31) = 12
    · refine w_tbE (off := 575) (tgt := 615) s_12 dL_law_40 (by decide) (by decide) (by decide) (by decide) ?_
      exact C_peek hs j kk
    by_cases s_13 : (X.2 (nI n).toNatClampNeg &&& 31) = 13
    · refine w_tbE (off := 600) (tgt := 640) s_13 dL_law_40 (by decide) (by decide) (by decide) (by decide) ?_
      exact C_poke hs j kk
    by_cases s_14 : (X.2 (nI n).toNatClampNeg &&& 31) = 14
    · refine w_tbE (off := 635) (tgt := 675) s_14 dL_law_40 (by decide) (by decide) (by decide) (by decide) ?_
      exact C_write hs j kk
    by_cases s_15 : (X.2 (nI n).toNatClampNeg &&& 31) = 15
    · refine w_tbE (off := 660) (tgt := 700) s_15 dL_law_40 (by decide) (by decide) (by decide) (by decide) ?_
      exact C_written hs j kk
    by_cases s_16 : (X.2 (nI n).toNatClampNeg &&& 31) = 16
    · refine w_tbE (off := 685) (tgt := 725) s_16 dL_law_40 (by decide) (by decide) (by decide) (by decide) ?_
      exact C_again hs j kk
    by_cases s_17 : (X.2 (nI n).toNatClampNeg &&& 31) = 17
    · refine w_tbE (off := 698) (tgt := 738) s_17 dL_law_40 (by decide) (by decide) (by decide) (by decide) ?_
      exact C_printed hs j kk
    by_cases s_18 : (X.2 (nI n).toNatClampNeg &&& 31) = 18
    · refine w_tbE (off := 711) (tgt := 751) s_18 dL_law_40 (by decide) (by decide) (by decide) (by decide) ?_
      exact C_print hs j kk
    by_cases s_19 : (X.2 (nI n).toNatClampNeg &&& 31) = 19
    · refine w_tbE (off := 736) (tgt := 776) s_19 dL_law_40 (by decide) (by decide) (by decide) (by decide) ?_
      exact C_count hs j kk
    refine w_tableOut (tgt := 832) dL_law_40 (by have t_0 := ne_toInt s_0 (n := 0) (by decide); have t_1 := ne_toInt s_1 (n := 1) (by decide); have t_2 := ne_toInt s_2 (n := 2) (by decide); have t_3 := ne_toInt s_3 (n := 3) (by decide); have t_4 := ne_toInt s_4 (n := 4) (by decide); have t_5 := ne_toInt s_5 (n := 5) (by decide); have t_6 := ne_toInt s_6 (n := 6) (by decide); have t_7 := ne_toInt s_7 (n := 7) (by decide); have t_8 := ne_toInt s_8 (n := 8) (by decide); have t_9 := ne_toInt s_9 (n := 9) (by decide); have t_10 := ne_toInt s_10 (n := 10) (by decide); have t_11 := ne_toInt s_11 (n := 11) (by decide); have t_12 := ne_toInt s_12 (n := 12) (by decide); have t_13 := ne_toInt s_13 (n := 13) (by decide); have t_14 := ne_toInt s_14 (n := 14) (by decide); have t_15 := ne_toInt s_15 (n := 15) (by decide); have t_16 := ne_toInt s_16 (n := 16) (by decide); have t_17 := ne_toInt s_17 (n := 17) (by decide); have t_18 := ne_toInt s_18 (n := 18) (by decide); have t_19 := ne_toInt s_19 (n := 19) (by decide); omega) (by decide) ?_
    exact kk e h σ τ T L κ a5 a6 (Nat.le_succ _) j
/-- the start: both machines as they are made -/
def g0 : Nat → Int32 := fun k => if k = 8 then 12288 else if k = 9 then 32770 else if k = 10 then 12288 else if k = 11 then 65024 else if k = 20 then -1 else 0
def μ0 : MS := (g0, fun _ => 0, [], [])
def κ0 : KE := (0, 0, -1, [], [], 0)
theorem z_St : St zC := ⟨by decide +kernel, by decide +kernel, by decide +kernel⟩
theorem z_17 (p : Nat) : hR zC 17 p = none := rfl
theorem z_26 (a : Nat) : hI zC 26 a = 0 := rfl
theorem z_Pg : PgC zC (fun _ => 0) := by
  refine ⟨fun p b hp hb => (by rw [z_17] at hb; cases hb), fun p p' b hp hp' hb => (by rw [z_17] at hb; cases hb), ?_, fun a ha => by unfold memAt; rw [z_17]⟩
  have e : nn zC = 256 := by
    unfold nn
    simp only [z_17]
    decide +kernel
  rw [e]
  decide +kernel
theorem z_RC : RC zC μ0 := ⟨z_St, z_Pg, ⟨0, by decide, by decide +kernel, by decide +kernel, by decide, fun i v hv => by cases hv⟩, ⟨by decide +kernel, by decide, fun i v hv => by cases hv⟩, by decide +kernel, by decide +kernel, by decide +kernel, by decide +kernel, by decide +kernel, by decide +kernel, by decide +kernel⟩
theorem z_RM : RM zC μ0 := ⟨z_St, fun a _ => z_26 a, ⟨by decide +kernel, by decide, fun i v hv => by cases hv⟩, ⟨by decide +kernel, by decide, fun i v hv => by cases hv⟩, by decide +kernel, by decide +kernel⟩
theorem z_CK : CK zC κ0 := ⟨6, Or.inl rfl, by decide +kernel, by decide +kernel, by decide +kernel, by decide +kernel, by decide +kernel, ⟨by decide +kernel, by decide⟩, fun i v hv => (by cases hv), ⟨by decide +kernel, by decide⟩, fun i v hv => (by cases hv), by decide +kernel, by decide, by decide⟩
theorem z_MK : MK zC κ0 := ⟨by decide +kernel, by decide +kernel, by decide +kernel, ⟨by decide +kernel, by decide⟩, fun i v hv => (by cases hv), ⟨by decide +kernel, by decide⟩, fun i v hv => (by cases hv), by decide +kernel⟩
theorem z_W : ∀ k, k < 14 → W16 (g0 k) := by
  have h : ∀ k, k < 14 → ∃ n ∈ [0, 12288, 32770, 65024], g0 k = nI n := by decide +kernel
  intro k hk
  obtain ⟨n, hn9, e⟩ := h k hk
  refine ⟨n, ?_, e⟩
  simp only [List.mem_cons, List.not_mem_nil, or_false] at hn9
  omega
theorem z_JJ : JJ 0 zC μ0 μ0 [] [] κ0 := by
  refine ⟨⟨⟨by decide +kernel, ?_⟩, z_RC, z_RM, ⟨z_St, by decide +kernel, by decide, fun i v hv => by cases hv⟩, ⟨z_St, by decide +kernel, by decide, fun i v hv => by cases hv⟩, ⟨z_St, by decide +kernel, by decide, fun i v hv => by cases hv⟩, ⟨by decide +kernel, by decide, fun i v hv => by cases hv⟩, z_CK, z_MK⟩, ⟨-1, 0, ⟨fun _ _ _ _ => rfl, by decide, fun _ _ => rfl, rfl, rfl, by decide, by decide, by decide⟩, z_W, fun _ _ => w_0, fun x hx => by cases hx⟩, Byt.nil, Byt.nil, fun v hv => by cases hv⟩
  have e : hn zC = 40 := by decide +kernel
  show hs zC + 10240 = zS + 256 * hn zC + 6 * 0
  rw [e]; rfl
/-- the whole of the law's body -/
theorem T_law {X : Nat × (Nat → Int32)} (hX1 : X.1 ≤ 3072) : WP X mL_law 16 614 0 (en 7 [.ref 1004000]) [] h00 (fun r h => r = some (.int 1) ∧ FN h) := by
  refine T_begin ?_
  rw [show (0 : Int32) = nI 0 from nI_0.symm]
  exact L_law hX1 (fun h hf => ⟨rfl, hf⟩) 513 0 0 zC μ0 μ0 [] [] κ0 none none (by omega) (by omega) (by omega) z_JJ
