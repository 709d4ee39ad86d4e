/-! THE CLASS's ASSEMBLER: a LINE's start, a pass -/
theorem fO_lt : ∀ (m i : Nat) (h : Int64) (j : Nat), fO m i h = some j → j < i + m
  | 0, _, _, _, e => by cases e
  | m + 1, i, h, j, e => by
    rw [fO] at e
    split at e
    · cases e; omega
    · have := fO_lt m (i + 1) h j e; omega
theorem uC_1 {T : List Int32} {s : Nat} (h : uC T s = 1) : ∃ i, i < 37 ∧ uO T s = some i := by
  have c : ¬ sgI (bT T s) = 0 := fun c => by have := uC_z c; omega
  rw [(sg_w c).1] at h
  have hO : (uO T s).isSome := by
    unfold wk at h
    split at h
    · assumption
    split at h
    · omega
    split at h
    · omega
    split at h <;> omega
  cases e : uO T s with
  | none => rw [e] at hO; cases hO
  | some i =>
    refine ⟨i, ?_, rfl⟩
    unfold uO at e
    split at e
    · cases e
    · exact fO_lt 37 0 _ i e
/-- a LINE's start: behind its LABEL -/
def lsS (T : List Int32) (sec : Bool) (a : AS) : FA ⊕ (AS × Nat) := if a.2.1 = true ∧ uC T (nx T a.1) = 4 then (match teS T sec (nx T a.1) a with
    | .inl e => .inl e
    | .inr b => .inr (b, nx T b.1))
  else .inr (a, nx T a.1)
theorem ln_sg (T : List Int32) (sec : Bool) (a : AS) : lnS T sec a = (match lsS T sec a with
    | .inl e => .inl e
    | .inr b => bdS T sec b.2 b.1) := by
  unfold lnS lsS
  split
  · cases teS T sec (nx T a.1) a <;> rfl
  · rfl
theorem b01_1 {b : Bool} (h : ¬ b01 b = 0) : b = true := by
  cases b
  · exact absurd rfl h
  · rfl
theorem b01_t {b : Bool} (h : b01 b = 1) : b = true := by
  cases b
  · exact absurd h (by decide)
  · rfl
set_option maxRecDepth 20000 in
set_option maxHeartbeats 4000000 in
theorem L_ts2 {X : Nat × (Nat → Int32)} {h0 h : PH} {Q : Option Value → PH → Prop} {T : List Int32} {α : AK} {D : Nat} {sec : Bool} {b : AS} {s : Nat} (t : TK T s α.2.2) (ar : AR D T sec b α) (f : Fa D h0 h) (q : RA D h T α) (k2 : uC T s = 0 → Q (some .null) h) (k3 : ∀ i, i < 37 → uC T s = 1 → uO T s = some i → (b.2.1 = true ↔ ¬ i = 0) → Q (some (.ref (1000000 + i))) h) (k4 : ¬ uC T s = 0 → ¬ (uC T s = 1 ∧ (b.2.1 = true ↔ ¬ uO T s = some 0)) → ∀ h', Fa D h0 h' → RA D h' T (faS α 1 (nI s)) → Q (some .null) h') {x1 : Option Value} : WP X mX0_takeStart 4 91 36 [some (.ref 3), x1] [] h Q := by
  have hb : ∀ i, uO T s = some i → ((b.2.1 = true ↔ ¬ uO T s = some 0) ↔ (b.2.1 = true ↔ ¬ i = 0)) := fun i e => by rw [e, Option.some.injEq]
  refine w_aload_n dX0_takeStart_36 rfl rfl ?_
  refine w_gs (b := 12) q.1 dX0_takeStart_37 fX0_41 (by decide) rfl rfl (by decide) ?_
  refine a_gk (k := 2) (by decide) q dX0_takeStart_40 fX0_104 ?_
  refine w_iconst dX0_takeStart_43 (v := 1) (by decide) ?_
  refine w_icmp_ne (tgt := 57) dX0_takeStart_44 (by decide) (fun c_44 => ?_) (fun c_44 => ?_)
  · rw [t.2.1, show (1 : Int32) = nI 1 from rfl, ki_e (by decide)] at c_44
    refine w_null dX0_takeStart_57 ?_
    refine w_astore_nN dX0_takeStart_58 rfl (by decide) ?_
    refine w_aload_nN dX0_takeStart_59 rfl rfl ?_
    refine w_ifnullN (tgt := 84) dX0_takeStart_60 (by decide) ?_
    refine w_aload_n dX0_takeStart_84 rfl rfl ?_
    refine w_gs (b := 12) q.1 dX0_takeStart_85 fX0_41 (by decide) rfl rfl (by decide) ?_
    refine a_gk (k := 2) (by decide) q dX0_takeStart_88 fX0_104 ?_
    refine w_if_eq (tgt := 106) dX0_takeStart_91 (by decide) (fun c_91 => ?_) (fun c_91 => ?_)
    · rw [t.2.1, show (0 : Int32) = nI 0 from rfl, ki_e (by decide)] at c_91
      refine w_null dX0_takeStart_106 ?_
      refine w_aretN dX0_takeStart_107 ?_
      exact k2 c_91
    · rw [t.2.1, show (0 : Int32) = nI 0 from rfl, ki_e (by decide)] at c_91
      refine w_aload_n dX0_takeStart_94 rfl rfl ?_
      refine w_iconst dX0_takeStart_95 (v := 1) (by decide) ?_
      refine w_aload_n dX0_takeStart_96 rfl rfl ?_
      refine w_gs (b := 12) q.1 dX0_takeStart_97 fX0_41 (by decide) rfl rfl (by decide) ?_
      refine a_gk (k := 3) (by decide) q dX0_takeStart_100 fX0_119 ?_
      refine w_v2 (d2 := 0) (L2 := 0) dX0_takeStart_103 vX0_97 rfl (q.1.lt (by decide)) rfl rfl (by decide) (Nat.le_of_ble_eq_true rfl) (by decide) (by decide) ?_
      rw [t.2.2.1]
      refine T_fail f q (fun hz fz qz => ?_)
      refine k_v rfl ?_
      refine w_null dX0_takeStart_106 ?_
      refine w_aretN dX0_takeStart_107 ?_
      exact k4 c_91 (fun e => absurd e.1 c_44) _ fz qz
  · rw [t.2.1, show (1 : Int32) = nI 1 from rfl, ki_e (by decide)] at c_44
    obtain ⟨i, hi, eo⟩ := uC_1 c_44
    have eop : α.2.2.2.2.2 = some (1000000 + i) := by rw [t.2.2.2.2.1 c_44, eo]; rfl
    refine w_aload_n dX0_takeStart_47 rfl rfl ?_
    refine w_gs (b := 12) q.1 dX0_takeStart_48 fX0_41 (by decide) rfl rfl (by decide) ?_
    refine w_getR (b := 1000000 + i) dX0_takeStart_51 fX0_110 rfl rfl (q.1.lt (by decide)) (q.2.1.2.2.2.2.2.trans eop) ?_
    refine w_goto (tgt := 58) dX0_takeStart_54 (by decide) ?_
    refine w_astore_n dX0_takeStart_58 rfl (by decide) ?_
    refine w_aload_n dX0_takeStart_59 rfl rfl ?_
    refine w_ifnull dX0_takeStart_60 ?_
    refine w_aload_n dX0_takeStart_63 rfl rfl ?_
    refine a_g3 (k := 10) rfl q dX0_takeStart_64 fX0_67 ?_
    refine w_aload_n dX0_takeStart_67 rfl rfl ?_
    refine w_cstat dX0_takeStart_68 kZ_o9 gX0_114 ?_
    refine w_acmpne (i := i) (j := 0) (tgt := 78) dX0_takeStart_71 (by decide) hi (by decide) (fun c_71 => ?_) (fun c_71 => ?_)
    · refine w_iconst dX0_takeStart_78 (v := 0) (by decide) ?_
      refine w_icmp_eq (tgt := 84) dX0_takeStart_79 (by decide) (fun c_79 => ?_) (fun c_79 => ?_)
      · rw [ar.2.1] at c_79
        refine w_aload_n dX0_takeStart_84 rfl rfl ?_
        refine w_gs (b := 12) q.1 dX0_takeStart_85 fX0_41 (by decide) rfl rfl (by decide) ?_
        refine a_gk (k := 2) (by decide) q dX0_takeStart_88 fX0_104 ?_
        refine w_if_eq (tgt := 106) dX0_takeStart_91 (by decide) (fun c_91 => ?_) (fun c_91 => ?_)
        · rw [t.2.1, show (0 : Int32) = nI 0 from rfl, ki_e (by decide)] at c_91
          refine w_null dX0_takeStart_106 ?_
          refine w_aretN dX0_takeStart_107 ?_
          exact absurd c_91 (by rw [c_44]; decide)
        · rw [t.2.1, show (0 : Int32) = nI 0 from rfl, ki_e (by decide)] at c_91
          refine w_aload_n dX0_takeStart_94 rfl rfl ?_
          refine w_iconst dX0_takeStart_95 (v := 1) (by decide) ?_
          refine w_aload_n dX0_takeStart_96 rfl rfl ?_
          refine w_gs (b := 12) q.1 dX0_takeStart_97 fX0_41 (by decide) rfl rfl (by decide) ?_
          refine a_gk (k := 3) (by decide) q dX0_takeStart_100 fX0_119 ?_
          refine w_v2 (d2 := 0) (L2 := 0) dX0_takeStart_103 vX0_97 rfl (q.1.lt (by decide)) rfl rfl (by decide) (Nat.le_of_ble_eq_true rfl) (by decide) (by decide) ?_
          rw [t.2.2.1]
          refine T_fail f q (fun hz fz qz => ?_)
          refine k_v rfl ?_
          refine w_null dX0_takeStart_106 ?_
          refine w_aretN dX0_takeStart_107 ?_
          exact k4 c_91 (fun e => by have := (hb i eo).mp e.2; have h1 : b.2.1 = true := this.mpr c_71; rw [h1] at c_79; exact absurd c_79 (by decide)) _ fz qz
      · rw [ar.2.1] at c_79
        refine w_aload_n dX0_takeStart_82 rfl rfl ?_
        refine w_aret dX0_takeStart_83 ?_
        exact k3 i hi c_44 eo ⟨fun _ => c_71, fun _ => b01_1 c_79⟩
    · refine w_iconst dX0_takeStart_74 (v := 1) (by decide) ?_
      refine w_goto (tgt := 79) dX0_takeStart_75 (by decide) ?_
      refine w_icmp_eq (tgt := 84) dX0_takeStart_79 (by decide) (fun c_79 => ?_) (fun c_79 => ?_)
      · rw [ar.2.1] at c_79
        refine w_aload_n dX0_takeStart_84 rfl rfl ?_
        refine w_gs (b := 12) q.1 dX0_takeStart_85 fX0_41 (by decide) rfl rfl (by decide) ?_
        refine a_gk (k := 2) (by decide) q dX0_takeStart_88 fX0_104 ?_
        refine w_if_eq (tgt := 106) dX0_takeStart_91 (by decide) (fun c_91 => ?_) (fun c_91 => ?_)
        · rw [t.2.1, show (0 : Int32) = nI 0 from rfl, ki_e (by decide)] at c_91
          refine w_null dX0_takeStart_106 ?_
          refine w_aretN dX0_takeStart_107 ?_
          exact absurd c_91 (by rw [c_44]; decide)
        · rw [t.2.1, show (0 : Int32) = nI 0 from rfl, ki_e (by decide)] at c_91
          refine w_aload_n dX0_takeStart_94 rfl rfl ?_
          refine w_iconst dX0_takeStart_95 (v := 1) (by decide) ?_
          refine w_aload_n dX0_takeStart_96 rfl rfl ?_
          refine w_gs (b := 12) q.1 dX0_takeStart_97 fX0_41 (by decide) rfl rfl (by decide) ?_
          refine a_gk (k := 3) (by decide) q dX0_takeStart_100 fX0_119 ?_
          refine w_v2 (d2 := 0) (L2 := 0) dX0_takeStart_103 vX0_97 rfl (q.1.lt (by decide)) rfl rfl (by decide) (Nat.le_of_ble_eq_true rfl) (by decide) (by decide) ?_
          rw [t.2.2.1]
          refine T_fail f q (fun hz fz qz => ?_)
          refine k_v rfl ?_
          refine w_null dX0_takeStart_106 ?_
          refine w_aretN dX0_takeStart_107 ?_
          exact k4 c_91 (fun e => by have := (hb i eo).mp e.2; have h1 : b.2.1 = true := b01_t c_79; exact (this.mp h1) c_71) _ fz qz
      · rw [ar.2.1] at c_79
        refine w_aload_n dX0_takeStart_82 rfl rfl ?_
        refine w_aret dX0_takeStart_83 ?_
        exact k3 i hi c_44 eo ⟨fun h1 => absurd (by rw [h1]; rfl) c_79, fun h1 => absurd c_71 h1⟩

set_option maxRecDepth 20000 in
set_option maxHeartbeats 4000000 in
theorem L_ts3 {X : Nat × (Nat → Int32)} {h0 h : PH} {Q : Option Value → PH → Prop} {T : List Int32} {α : AK} {D : Nat} {s : Nat} (t : TK T s α.2.2) (e7 : ¬ α.1 3 7 = 0) (f : Fa D h0 h) (q : RA D h T α) (k : ∀ v h', (v = .null ∨ ∃ i, i < 37 ∧ v = .ref (1000000 + i)) → Fa D h0 h' → RA D h' T α → Q (some v) h') {x1 : Option Value} : WP X mX0_takeStart 4 91 36 [some (.ref 3), x1] [] h Q := by
  have fa9 : ∀ n p, faS α n p = α := fun n p => if_neg e7
  refine w_aload_n dX0_takeStart_36 rfl rfl ?_
  refine w_gs (b := 12) q.1 dX0_takeStart_37 fX0_41 (by decide) rfl rfl (by decide) ?_
  refine a_gk (k := 2) (by decide) q dX0_takeStart_40 fX0_104 ?_
  refine w_iconst dX0_takeStart_43 (v := 1) (by decide) ?_
  refine w_icmp_ne (tgt := 57) dX0_takeStart_44 (by decide) (fun c_44 => ?_) (fun c_44 => ?_)
  · rw [t.2.1, show (1 : Int32) = nI 1 from rfl, ki_e (by decide)] at c_44
    refine w_null dX0_takeStart_57 ?_
    refine w_astore_nN dX0_takeStart_58 rfl (by decide) ?_
    refine w_aload_nN dX0_takeStart_59 rfl rfl ?_
    refine w_ifnullN (tgt := 84) dX0_takeStart_60 (by decide) ?_
    refine w_aload_n dX0_takeStart_84 rfl rfl ?_
    refine w_gs (b := 12) q.1 dX0_takeStart_85 fX0_41 (by decide) rfl rfl (by decide) ?_
    refine a_gk (k := 2) (by decide) q dX0_takeStart_88 fX0_104 ?_
    refine w_if_eq (tgt := 106) dX0_takeStart_91 (by decide) (fun c_91 => ?_) (fun c_91 => ?_)
    · refine w_null dX0_takeStart_106 ?_
      refine w_aretN dX0_takeStart_107 ?_
      exact k .null _ (Or.inl rfl) f q
    · refine w_aload_n dX0_takeStart_94 rfl rfl ?_
      refine w_iconst dX0_takeStart_95 (v := 1) (by decide) ?_
      refine w_aload_n dX0_takeStart_96 rfl rfl ?_
      refine w_gs (b := 12) q.1 dX0_takeStart_97 fX0_41 (by decide) rfl rfl (by decide) ?_
      refine a_gk (k := 3) (by decide) q dX0_takeStart_100 fX0_119 ?_
      refine w_v2 (d2 := 0) (L2 := 0) dX0_takeStart_103 vX0_97 rfl (q.1.lt (by decide)) rfl rfl (by decide) (Nat.le_of_ble_eq_true rfl) (by decide) (by decide) ?_
      refine T_fail f q (fun hz fz qz => ?_)
      rw [fa9] at qz
      refine k_v rfl ?_
      refine w_null dX0_takeStart_106 ?_
      refine w_aretN dX0_takeStart_107 ?_
      exact k .null _ (Or.inl rfl) fz qz
  · rw [t.2.1, show (1 : Int32) = nI 1 from rfl, ki_e (by decide)] at c_44
    obtain ⟨i, hi, eo⟩ := uC_1 c_44
    have eop : α.2.2.2.2.2 = some (1000000 + i) := by rw [t.2.2.2.2.1 c_44, eo]; rfl
    refine w_aload_n dX0_takeStart_47 rfl rfl ?_
    refine w_gs (b := 12) q.1 dX0_takeStart_48 fX0_41 (by decide) rfl rfl (by decide) ?_
    refine w_getR (b := 1000000 + i) dX0_takeStart_51 fX0_110 rfl rfl (q.1.lt (by decide)) (q.2.1.2.2.2.2.2.trans eop) ?_
    refine w_goto (tgt := 58) dX0_takeStart_54 (by decide) ?_
    refine w_astore_n dX0_takeStart_58 rfl (by decide) ?_
    refine w_aload_n dX0_takeStart_59 rfl rfl ?_
    refine w_ifnull dX0_takeStart_60 ?_
    refine w_aload_n dX0_takeStart_63 rfl rfl ?_
    refine a_g3 (k := 10) rfl q dX0_takeStart_64 fX0_67 ?_
    refine w_aload_n dX0_takeStart_67 rfl rfl ?_
    refine w_cstat dX0_takeStart_68 kZ_o9 gX0_114 ?_
    refine w_acmpne (i := i) (j := 0) (tgt := 78) dX0_takeStart_71 (by decide) hi (by decide) (fun c_71 => ?_) (fun c_71 => ?_)
    · refine w_iconst dX0_takeStart_78 (v := 0) (by decide) ?_
      refine w_icmp_eq (tgt := 84) dX0_takeStart_79 (by decide) (fun c_79 => ?_) (fun c_79 => ?_)
      · refine w_aload_n dX0_takeStart_84 rfl rfl ?_
        refine w_gs (b := 12) q.1 dX0_takeStart_85 fX0_41 (by decide) rfl rfl (by decide) ?_
        refine a_gk (k := 2) (by decide) q dX0_takeStart_88 fX0_104 ?_
        refine w_if_eq (tgt := 106) dX0_takeStart_91 (by decide) (fun c_91 => ?_) (fun c_91 => ?_)
        · refine w_null dX0_takeStart_106 ?_
          refine w_aretN dX0_takeStart_107 ?_
          exact k .null _ (Or.inl rfl) f q
        · refine w_aload_n dX0_takeStart_94 rfl rfl ?_
          refine w_iconst dX0_takeStart_95 (v := 1) (by decide) ?_
          refine w_aload_n dX0_takeStart_96 rfl rfl ?_
          refine w_gs (b := 12) q.1 dX0_takeStart_97 fX0_41 (by decide) rfl rfl (by decide) ?_
          refine a_gk (k := 3) (by decide) q dX0_takeStart_100 fX0_119 ?_
          refine w_v2 (d2 := 0) (L2 := 0) dX0_takeStart_103 vX0_97 rfl (q.1.lt (by decide)) rfl rfl (by decide) (Nat.le_of_ble_eq_true rfl) (by decide) (by decide) ?_
          refine T_fail f q (fun hz fz qz => ?_)
          rw [fa9] at qz
          refine k_v rfl ?_
          refine w_null dX0_takeStart_106 ?_
          refine w_aretN dX0_takeStart_107 ?_
          exact k .null _ (Or.inl rfl) fz qz
      · refine w_aload_n dX0_takeStart_82 rfl rfl ?_
        refine w_aret dX0_takeStart_83 ?_
        exact k _ _ (Or.inr ⟨i, hi, rfl⟩) f q
    · refine w_iconst dX0_takeStart_74 (v := 1) (by decide) ?_
      refine w_goto (tgt := 79) dX0_takeStart_75 (by decide) ?_
      refine w_icmp_eq (tgt := 84) dX0_takeStart_79 (by decide) (fun c_79 => ?_) (fun c_79 => ?_)
      · refine w_aload_n dX0_takeStart_84 rfl rfl ?_
        refine w_gs (b := 12) q.1 dX0_takeStart_85 fX0_41 (by decide) rfl rfl (by decide) ?_
        refine a_gk (k := 2) (by decide) q dX0_takeStart_88 fX0_104 ?_
        refine w_if_eq (tgt := 106) dX0_takeStart_91 (by decide) (fun c_91 => ?_) (fun c_91 => ?_)
        · refine w_null dX0_takeStart_106 ?_
          refine w_aretN dX0_takeStart_107 ?_
          exact k .null _ (Or.inl rfl) f q
        · refine w_aload_n dX0_takeStart_94 rfl rfl ?_
          refine w_iconst dX0_takeStart_95 (v := 1) (by decide) ?_
          refine w_aload_n dX0_takeStart_96 rfl rfl ?_
          refine w_gs (b := 12) q.1 dX0_takeStart_97 fX0_41 (by decide) rfl rfl (by decide) ?_
          refine a_gk (k := 3) (by decide) q dX0_takeStart_100 fX0_119 ?_
          refine w_v2 (d2 := 0) (L2 := 0) dX0_takeStart_103 vX0_97 rfl (q.1.lt (by decide)) rfl rfl (by decide) (Nat.le_of_ble_eq_true rfl) (by decide) (by decide) ?_
          refine T_fail f q (fun hz fz qz => ?_)
          rw [fa9] at qz
          refine k_v rfl ?_
          refine w_null dX0_takeStart_106 ?_
          refine w_aretN dX0_takeStart_107 ?_
          exact k .null _ (Or.inl rfl) fz qz
      · refine w_aload_n dX0_takeStart_82 rfl rfl ?_
        refine w_aret dX0_takeStart_83 ?_
        exact k _ _ (Or.inr ⟨i, hi, rfl⟩) f q

theorem te_p {T : List Int32} {sec : Bool} {s : Nat} {a b : AS} (h : teS T sec s a = .inr b) : b.1 = uE T s := by
  unfold teS at h
  split at h
  · cases h; rfl
  split at h
  · cases h
  split at h
  · cases h
  · cases h; rfl
set_option maxRecDepth 20000 in
set_option maxHeartbeats 4000000 in
/-- takeStart() -/
theorem T_start {X : Nat × (Nat → Int32)} {h0 h : PH} {Q : Option Value → PH → Prop} {T : List Int32} {α : AK} {D : Nat} (hB : Byt T) {sec : Bool} {a : AS} (ar : AR D T sec a α) (np : α.2.2.1 1 = nI a.1) (f : Fa D h0 h) (q : RA D h T α) (k1 : ∀ e, lsS T sec a = .inl e → ∀ v h' α', (v = .null ∨ ∃ i, i < 37 ∧ v = .ref (1000000 + i)) → Fa D h0 h' → RA D h' T α' → α'.1 3 7 = e.1 → ¬ e.1 = 0 → α'.1 3 8 = nI e.2 → α'.1 3 6 = α.1 3 6 → Q (some v) h') (k2 : ∀ b s, lsS T sec a = .inr (b, s) → uC T s = 0 → ∀ h' α', Fa D h0 h' → RA D h' T α' → AR D T sec b α' → TK T s α'.2.2 → s ≤ T.length → α'.1 3 6 = α.1 3 6 → Q (some .null) h') (k3 : ∀ b s i, lsS T sec a = .inr (b, s) → i < 37 → uC T s = 1 → uO T s = some i → (b.2.1 = true ↔ ¬ i = 0) → ∀ h' α', Fa D h0 h' → RA D h' T α' → AR D T sec b α' → TK T s α'.2.2 → s ≤ T.length → α'.1 3 6 = α.1 3 6 → Q (some (.ref (1000000 + i))) h') (k4 : ∀ b s, lsS T sec a = .inr (b, s) → ¬ uC T s = 0 → ¬ (uC T s = 1 ∧ (b.2.1 = true ↔ ¬ uO T s = some 0)) → ∀ h' α', Fa D h0 h' → RA D h' T α' → α'.1 3 7 = 1 → α'.1 3 8 = nI s → α'.1 3 6 = α.1 3 6 → Q (some .null) h') : WP X mX0_takeStart 4 91 0 (en 2 [.ref 3]) [] h Q := by
  refine w_aload_n dX0_takeStart_0 rfl rfl ?_
  refine w_gs (b := 12) q.1 dX0_takeStart_1 fX0_41 (by decide) rfl rfl (by decide) ?_
  refine w_v0 (d2 := 3) (L2 := 70) dX0_takeStart_4 vX0_101 rfl (q.1.lt (by decide)) (by decide) (Nat.le_of_ble_eq_true rfl) (by decide) (by decide) ?_
  refine T_adv np ar.2.2.2.2.2.2.2 Fk.rf q.2.1 (fun ha κa ga ra ta => ?_)
  have fa := f.k ga
  have qa := q.tok ga ra
  refine k_v rfl ?_
  have hx := nx_p ar.2.2.2.2.2.2.2
  have ara : AR D T sec a (aT α κa) := ar
  refine w_aload_n dX0_takeStart_7 rfl rfl ?_
  refine a_g3 (k := 10) rfl qa dX0_takeStart_8 fX0_67 ?_
  refine w_if_eq (tgt := 36) dX0_takeStart_11 (by decide) (fun c_11 => ?_) (fun c_11 => ?_)
  · rw [show (aT α κa).1 3 10 = _ from ar.2.1] at c_11
    have sg : lsS T sec a = .inr (a, nx T a.1) := by unfold lsS; rw [if_neg (fun e => by rw [e.1] at c_11; exact absurd c_11 (by decide))]
    exact L_ts2 ta ara fa qa (fun x => k2 _ _ sg x _ _ fa qa ara ta hx.2 rfl) (fun i hi x1 x2 x3 => k3 _ _ i sg hi x1 x2 x3 _ _ fa qa ara ta hx.2 rfl) (fun x1 x2 h' f' q' => by
      have e9 : faS (aT α κa) 1 (nI (nx T a.1)) = aP (aP (aT α κa) 3 7 1) 3 8 (nI (nx T a.1)) := if_pos ar.1
      rw [e9] at q'
      exact k4 _ _ sg x1 x2 h' _ f' q' ((aP_k (by decide)).trans aP_s) aP_s ((aP_k (by decide)).trans ((aP_k (by decide)).trans rfl)))
  · rw [show (aT α κa).1 3 10 = _ from ar.2.1] at c_11
    refine w_aload_n dX0_takeStart_14 rfl rfl ?_
    refine w_gs (b := 12) qa.1 dX0_takeStart_15 fX0_41 (by decide) rfl rfl (by decide) ?_
    refine a_gk (k := 2) (by decide) qa dX0_takeStart_18 fX0_104 ?_
    refine w_iconst dX0_takeStart_21 (v := 4) (by decide) ?_
    refine w_icmp_ne (tgt := 36) dX0_takeStart_22 (by decide) (fun c_22 => ?_) (fun c_22 => ?_)
    · rw [show (aT α κa).2.2.1 2 = _ from ta.2.1, show (4 : Int32) = nI 4 from rfl, ki_e (by decide)] at c_22
      have sg : lsS T sec a = .inr (a, nx T a.1) := by unfold lsS; rw [if_neg (fun e => c_22 e.2)]
      exact L_ts2 ta ara fa qa (fun x => k2 _ _ sg x _ _ fa qa ara ta hx.2 rfl) (fun i hi x1 x2 x3 => k3 _ _ i sg hi x1 x2 x3 _ _ fa qa ara ta hx.2 rfl) (fun x1 x2 h' f' q' => by
        have e9 : faS (aT α κa) 1 (nI (nx T a.1)) = aP (aP (aT α κa) 3 7 1) 3 8 (nI (nx T a.1)) := if_pos ar.1
        rw [e9] at q'
        exact k4 _ _ sg x1 x2 h' _ f' q' ((aP_k (by decide)).trans aP_s) aP_s ((aP_k (by decide)).trans ((aP_k (by decide)).trans rfl)))
    · rw [show (aT α κa).2.2.1 2 = _ from ta.2.1, show (4 : Int32) = nI 4 from rfl, ki_e (by decide)] at c_22
      refine w_aload_n dX0_takeStart_25 rfl rfl ?_
      refine w_v0 (d2 := 1) (L2 := 22) dX0_takeStart_26 vX0_107 rfl (qa.1.lt (by decide)) (by decide) (Nat.le_of_ble_eq_true rfl) (by decide) (by decide) ?_
      refine T_tell hB c_22 hx.2 ta ara fa qa (fun e e9 hb αb fb qb y1 y2 y3 y4 y5 => ?_) (fun b e9 hb αb fb qb y1 y2 y3 => ?_)
      · refine k_v rfl ?_
        refine w_aload_n dX0_takeStart_29 rfl rfl ?_
        refine w_gs (b := 12) qb.1 dX0_takeStart_30 fX0_41 (by decide) rfl rfl (by decide) ?_
        refine w_v0 (d2 := 3) (L2 := 70) dX0_takeStart_33 vX0_101 rfl (qb.1.lt (by decide)) (by decide) (Nat.le_of_ble_eq_true rfl) (by decide) (by decide) ?_
        have npb : αb.2.2.1 1 = nI (uE T (nx T a.1)) := by rw [y5]; exact ta.1
        refine T_adv (p := uE T (nx T a.1)) npb (uE_le hx.2) Fk.rf qb.2.1 (fun hc κc gc rc tc => ?_)
        have fc := fb.k gc
        have qc := qb.tok gc rc
        refine k_v rfl ?_
        have sg : lsS T sec a = .inl e := by unfold lsS; rw [if_pos ⟨b01_1 c_11, c_22⟩, e9]
        exact L_ts3 tc (by rw [show (aT αb κc).1 3 7 = e.1 from y1]; exact y2) fc qc (fun v h' hv f' q' => k1 e sg v h' _ hv f' q' y1 y2 y3 y4)
      · refine k_v rfl ?_
        refine w_aload_n dX0_takeStart_29 rfl rfl ?_
        refine w_gs (b := 12) qb.1 dX0_takeStart_30 fX0_41 (by decide) rfl rfl (by decide) ?_
        refine w_v0 (d2 := 3) (L2 := 70) dX0_takeStart_33 vX0_101 rfl (qb.1.lt (by decide)) (by decide) (Nat.le_of_ble_eq_true rfl) (by decide) (by decide) ?_
        have npb : αb.2.2.1 1 = nI (uE T (nx T a.1)) := by rw [y2]; exact ta.1
        have eb : b.1 = uE T (nx T a.1) := te_p e9
        rw [← eb] at npb
        refine T_adv (p := b.1) npb (y1.2.2.2.2.2.2.2) Fk.rf qb.2.1 (fun hc κc gc rc tc => ?_)
        have fc := fb.k gc
        have qc := qb.tok gc rc
        refine k_v rfl ?_
        have sg : lsS T sec a = .inr (b, nx T b.1) := by unfold lsS; rw [if_pos ⟨b01_1 c_11, c_22⟩, e9]
        have hx2 := nx_p (show b.1 ≤ T.length from y1.2.2.2.2.2.2.2)
        have arc : AR D T sec b (aT αb κc) := y1
        exact L_ts2 tc arc fc qc (fun x => k2 _ _ sg x _ _ fc qc arc tc hx2.2 y3) (fun i hi x1 x2 x3 => k3 _ _ i sg hi x1 x2 x3 _ _ fc qc arc tc hx2.2 y3) (fun x1 x2 h' f' q' => by
          have e9 : faS (aT αb κc) 1 (nI (nx T b.1)) = aP (aP (aT αb κc) 3 7 1) 3 8 (nI (nx T b.1)) := if_pos y1.1
          rw [e9] at q'
          exact k4 _ _ sg x1 x2 h' _ f' q' ((aP_k (by decide)).trans aP_s) aP_s ((aP_k (by decide)).trans ((aP_k (by decide)).trans y3)))

