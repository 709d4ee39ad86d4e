/-! THE REFERENCE's ASSEMBLER: its state; labels; room -/
def ML (T : List Int32) (l : List (Nat × Nat)) (ψ : Nat → Nat → Int32) : Prop := ψ 25 36 = nI l.length ∧ l.length ≤ 200 ∧ ∀ i, i < l.length → ψ 34 i = nI (l.getD i (0, 0)).1 ∧ ψ 35 i = nI (wd1 T (l.getD i (0, 0)).1 - (l.getD i (0, 0)).1) ∧ ψ 36 i = nI (l.getD i (0, 0)).2 ∧ uC T (l.getD i (0, 0)).1 = 4
/-- what the reference keeps of where we are -/
def MA (T : List Int32) (sec : Bool) (a : AS) (ψ : Nat → Nat → Int32) : Prop := ψ 25 47 = b01 sec ∧ (ψ 25 49 = b01 a.2.1 ∧ ψ 25 50 = b01 a.2.2.1) ∧ (ψ 25 31 = nI a.2.2.2.2.1.length ∧ a.2.2.2.2.1.length ≤ 4096) ∧ (a.2.1 = true → ψ 25 48 = nI (a.2.2.2.1 + a.2.2.2.2.1.length) ∧ ψ 25 32 = nI a.2.2.2.1) ∧ (a.2.2.2.1 ≤ 65535 ∧ a.2.2.2.1 + a.2.2.2.2.1.length ≤ 65536) ∧ (sec = true → ∀ (i : Nat) (v : Int32), a.2.2.2.2.1[i]? = some v → ψ 33 i = v) ∧ ML T a.2.2.2.2.2 ψ ∧ (ψ 25 28 = 0 ∧ ψ 25 29 = -1) ∧ a.1 ≤ T.length
def UV (ψ φ : Nat → Nat → Int32) : Prop := ∀ c k, c ≠ 38 → ¬ (c = 25 ∧ ((40 ≤ k ∧ k ≤ 46) ∨ k = 51)) → φ c k = ψ c k
theorem UV.rf {ψ : Nat → Nat → Int32} : UV ψ ψ := fun _ _ _ _ => rfl
theorem UV.tr {ψ φ χ : Nat → Nat → Int32} (a : UV ψ φ) (b : UV φ χ) : UV ψ χ := fun c k n1 n2 => (b c k n1 n2).trans (a c k n1 n2)
theorem UA.uv {ψ φ : Nat → Nat → Int32} (a : UA ψ φ) : UV ψ φ := fun c k n1 n2 => a c k n1 (fun e => n2 ⟨e.1, Or.inl e.2⟩)
theorem UV.p {ψ φ : Nat → Nat → Int32} {k : Nat} {v : Int32} (a : UV ψ φ) (hk : (40 ≤ k ∧ k ≤ 46) ∨ k = 51) : UV ψ (uP φ 25 k v) := fun c j n1 n2 => (uP_o (fun e => n2 ⟨e.1, by rw [e.2]; exact hk⟩)).trans (a c j n1 n2)
/-- what an assembling leaves alone till its end -/
def UB (ψ φ : Nat → Nat → Int32) : Prop := (∀ k, (k < 28 ∨ k = 38) → φ 25 k = ψ 25 k) ∧ ∀ k, φ 31 k = ψ 31 k ∧ φ 32 k = ψ 32 k
theorem UB.rf {ψ : Nat → Nat → Int32} : UB ψ ψ := ⟨fun _ _ => rfl, fun _ => ⟨rfl, rfl⟩⟩
theorem UB.tr {ψ φ χ : Nat → Nat → Int32} (a : UB ψ φ) (b : UB φ χ) : UB ψ χ := ⟨fun k h => (b.1 k h).trans (a.1 k h), fun k => ⟨(b.2 k).1.trans (a.2 k).1, (b.2 k).2.trans (a.2 k).2⟩⟩
theorem UV.ub {ψ φ : Nat → Nat → Int32} (a : UV ψ φ) : UB ψ φ := ⟨fun k h => a 25 k (by decide) (fun e => by omega), fun k => ⟨a 31 k (by decide) (fun e => absurd e.1 (by decide)), a 32 k (by decide) (fun e => absurd e.1 (by decide))⟩⟩
theorem UB.p {ψ φ : Nat → Nat → Int32} {k : Nat} {v : Int32} (a : UB ψ φ) (hk : 28 ≤ k ∧ k ≠ 38) : UB ψ (uP φ 25 k v) := ⟨fun j h => (uP_k (by omega)).trans (a.1 j h), fun j => ⟨(uP_c (by decide)).trans (a.2 j).1, (uP_c (by decide)).trans (a.2 j).2⟩⟩
theorem UB.r {ψ φ : Nat → Nat → Int32} {c k : Nat} {v : Int32} (a : UB ψ φ) (hc : c ≠ 25 ∧ c ≠ 31 ∧ c ≠ 32) : UB ψ (uP φ c k v) := ⟨fun j h => (uP_c (Ne.symm hc.1)).trans (a.1 j h), fun j => ⟨(uP_c (Ne.symm hc.2.1)).trans (a.2 j).1, (uP_c (Ne.symm hc.2.2)).trans (a.2 j).2⟩⟩
theorem ML.uv {T : List Int32} {l : List (Nat × Nat)} {ψ φ : Nat → Nat → Int32} (h : ML T l ψ) (u : UV ψ φ) : ML T l φ := ⟨(u 25 36 (by decide) (by decide)).trans h.1, h.2.1, fun i hi => ⟨(u 34 i (by decide) (fun e => absurd e.1 (by decide))).trans (h.2.2 i hi).1, (u 35 i (by decide) (fun e => absurd e.1 (by decide))).trans (h.2.2 i hi).2.1, (u 36 i (by decide) (fun e => absurd e.1 (by decide))).trans (h.2.2 i hi).2.2.1, (h.2.2 i hi).2.2.2⟩⟩
theorem MA.uv {T : List Int32} {sec : Bool} {a : AS} {ψ φ : Nat → Nat → Int32} (h : MA T sec a ψ) (u : UV ψ φ) : MA T sec a φ := by
  obtain ⟨a1, a2, a3, a4, a5, a6, a7, a8, a9⟩ := h
  exact ⟨(u 25 47 (by decide) (by decide)).trans a1, ⟨(u 25 49 (by decide) (by decide)).trans a2.1, (u 25 50 (by decide) (by decide)).trans a2.2⟩, ⟨(u 25 31 (by decide) (by decide)).trans a3.1, a3.2⟩, fun hb => ⟨(u 25 48 (by decide) (by decide)).trans (a4 hb).1, (u 25 32 (by decide) (by decide)).trans (a4 hb).2⟩, a5, fun hs i v hv => (u 33 i (by decide) (fun e => absurd e.1 (by decide))).trans (a6 hs i v hv), a7.uv u, ⟨(u 25 28 (by decide) (by decide)).trans a8.1, (u 25 29 (by decide) (by decide)).trans a8.2⟩, a9⟩
theorem MA.p {T : List Int32} {sec : Bool} {p p' : Nat} {r : Bool × Bool × Nat × List Int32 × List (Nat × Nat)} {ψ : Nat → Nat → Int32} (h : MA T sec (p, r) ψ) (hp : p' ≤ T.length) : MA T sec (p', r) ψ := ⟨h.1, h.2.1, h.2.2.1, h.2.2.2.1, h.2.2.2.2.1, h.2.2.2.2.2.1, h.2.2.2.2.2.2.1, h.2.2.2.2.2.2.2.1, hp⟩
def RF (h0 : PH) (T : List Int32) (ψ : Nat → Nat → Int32) (Q : Option Value → PH → Prop) (e : Int32) (p : Nat) : Prop := ∀ h' φ, Fu h0 h' → RU h' T φ → UB ψ φ → φ 25 28 = e → φ 25 29 = nI p → Q (some (.int 0)) h'
theorem RF.p {h0 : PH} {T : List Int32} {ψ φ : Nat → Nat → Int32} {Q : Option Value → PH → Prop} {e : Int32} {p : Nat} (k : RF h0 T ψ Q e p) (u : UB ψ φ) : RF h0 T φ Q e p := fun h' χ a b c d g => k h' χ a b (u.tr c) d g
def RG (h0 : PH) (T : List Int32) (ψ : Nat → Nat → Int32) (Q : Option Value → PH → Prop) (p : Nat) (W : Int32 → Prop) : Prop := ∀ h' φ, Fu h0 h' → RU h' T φ → UV ψ φ → φ 25 40 = nI p → W (φ 25 51) → Q (some (.int 1)) h'
section
variable {X : Nat × (Nat → Int32)} {M : MR} {d L pc : Nat} {ls : List (Option Value)} {st : List Value} {h : PH} {Q : Option Value → PH → Prop} {T : List Int32} {ψ : Nat → Nat → Int32} {n : Nat}
theorem u_tp (hn : n < T.length) (q : RU h T ψ) (hd : decode M.2.1 pc = .ok (.iaload, 1)) (kk : WP X M d L (pc + 1) ls (.int (bT T n) :: st) h Q) : WP X M d L pc ls (.int (nI n) :: .ref 30 :: st) h Q := by
  have hl := q.2.1.1
  refine w_iaload hd rfl (q.1.lt (by decide)) (vp_in_nI (show n < 4020 by omega) (by decide)) ?_
  have e : T[n]? = some (bT T n) := by unfold bT; rw [List.getElem?_eq_getElem hn]; rfl
  rw [nI_clamp (by omega), q.2.1.2 n _ e]; exact kk
end
theorem sw_e {T : List Int32} (hB : Byt T) {s t : Nat} (hs : uC T s = 4) (ht : uC T t = 4) : sameW T s t = (decide (wd1 T s - s = wd1 T t - t) && alF (fun j => decide (gr (bT T (s + j)) = gr (bT T (t + j)))) (wd1 T s - s) 0) := by
  have a := uC_4 hs
  have b := uC_4 ht
  have wa := wd1_p (Nat.le_of_lt a.2.2)
  have wb := wd1_p (Nat.le_of_lt b.2.2)
  unfold sameW
  by_cases c : wd1 T s - s = wd1 T t - t
  · rw [decide_eq_true c, Bool.true_and, alF_e, ← c]
    have g := rl_gr hB (s := s) (t := t) (m := wd1 T s - s) (fun i x y => wa.2.2.1 i x (by omega)) (fun i x y => wb.2.2.1 i x (by omega))
    rw [Bool.eq_iff_iff, decide_eq_true_eq, g, List.all_eq_true]
    constructor
    · intro h i hi
      rw [Nat.zero_add, decide_eq_true_eq]; exact h i (List.mem_range.mp hi)
    · intro h i hi
      have := h i (List.mem_range.mpr hi)
      rw [Nat.zero_add, decide_eq_true_eq] at this; exact this
  · rw [decide_eq_false c, Bool.false_and]
    refine decide_eq_false (fun e => c ?_)
    have := congrArg List.length e
    rw [rl_len, rl_len] at this; exact this
set_option maxRecDepth 20000 in
set_option maxHeartbeats 4000000 in
theorem T_wrong {X : Nat × (Nat → Int32)} {h0 h : PH} {Q : Option Value → PH → Prop} {T : List Int32} {ψ : Nat → Nat → Int32} {e p : Int32} (f : Fu h0 h) (q : RU h T ψ) (k : ∀ h', Fu h0 h' → RU h' T (uP (uP ψ 25 28 e) 25 29 p) → Q (some (.int 0)) h') : WP X mX11_wrong 0 0 0 (en 3 [.ref 25, .int e, .int p]) [] h Q := by
  refine w_aload_n dX11_wrong_0 rfl rfl ?_
  refine w_iload_n dX11_wrong_1 rfl rfl ?_
  refine u_put (k := 28) (by decide) f q dX11_wrong_2 fX11_255 (fun h1 f1 q1 => ?_)
  refine w_aload_n dX11_wrong_5 rfl rfl ?_
  refine w_iload_n dX11_wrong_6 rfl rfl ?_
  refine u_put (k := 29) (by decide) f1 q1 dX11_wrong_7 fX11_32 (fun h2 f2 q2 => ?_)
  refine w_iconst dX11_wrong_10 (v := 0) (by decide) ?_
  refine w_iret dX11_wrong_11 (fun _ e => by cases e; decide) ?_
  exact k _ f2 q2

theorem rf1 {h0 : PH} {T : List Int32} {ψ φ : Nat → Nat → Int32} {Q : Option Value → PH → Prop} {e : Int32} {p : Nat} (k : RF h0 T ψ Q e p) (u : UB ψ φ) : ∀ h', Fu h0 h' → RU h' T (uP (uP φ 25 28 e) 25 29 (nI p)) → Q (some (.int 0)) h' := fun h' f q => k h' _ f q ((u.p (by decide)).p (by decide)) ((uP_k (by decide)).trans uP_s) uP_s
set_option maxRecDepth 20000 in
set_option maxHeartbeats 4000000 in
theorem T_wrt {X : Nat × (Nat → Int32)} {h0 h : PH} {Q : Option Value → PH → Prop} {T : List Int32} {ψ : Nat → Nat → Int32} {s : Nat} (t : ψ 25 42 = nI s) (f : Fu h0 h) (q : RU h T ψ) (k : ∀ h', Fu h0 h' → RU h' T (uP (uP ψ 25 28 1) 25 29 (nI s)) → Q (some (.int 0)) h') : WP X mX11_wrongToken 1 22 0 (en 1 [.ref 25]) [] h Q := by
  refine w_aload_n dX11_wrongToken_0 rfl rfl ?_
  refine w_iconst dX11_wrongToken_1 (v := 1) (by decide) ?_
  refine w_aload_n dX11_wrongToken_2 rfl rfl ?_
  refine u_get (k := 42) (by decide) q dX11_wrongToken_3 fX11_211 ?_
  refine w_v2 (d2 := 0) (L2 := 0) dX11_wrongToken_6 vX11_258 rfl (q.1.lt (by decide)) rfl rfl (by decide) (Nat.le_of_ble_eq_true rfl) (by decide) (by decide) ?_
  rw [t]
  refine T_wrong f q (fun h1 f1 q1 => ?_)
  refine k_i rfl ?_
  refine w_iret dX11_wrongToken_9 (fun _ e => by cases e; decide) ?_
  exact k _ f1 q1

set_option maxRecDepth 20000 in
set_option maxHeartbeats 4000000 in
theorem L_wi {X : Nat × (Nat → Int32)} {h : PH} {Q : Option Value → PH → Prop} {T : List Int32} {ψ : Nat → Nat → Int32} {s : Nat} {l : List (Nat × Nat)} {i : Nat} (hi : i < l.length) (hl2 : wd1 T (l.getD i (0, 0)).1 - (l.getD i (0, 0)).1 = wd1 T s - s ∨ True) (hB : Byt T) (ml : ML T l ψ) (hs : uC T s = 4) (e2 : ψ 25 42 = nI s) (e3 : ψ 25 43 = nI (wd1 T s)) (q : RU h T ψ) : ∀ (m j : Nat) (is9 : Int32), (is9 = 0 ∨ is9 = 1) → j + m = wd1 T (l.getD i (0, 0)).1 - (l.getD i (0, 0)).1 → (is9 = 1 → wd1 T (l.getD i (0, 0)).1 - (l.getD i (0, 0)).1 = wd1 T s - s) → (is9 = 1 → alF (fun j => decide (gr (bT T ((l.getD i (0, 0)).1 + j)) = gr (bT T (s + j)))) m j = true → ∀ x, WP X mX11_which 1 20 95 [some (.ref 25), some (.int (nI i)), some (.int 1), x] [] h Q) → ((is9 = 0 ∨ alF (fun j => decide (gr (bT T ((l.getD i (0, 0)).1 + j)) = gr (bT T (s + j)))) m j = false) → ∀ x, WP X mX11_which 1 20 95 [some (.ref 25), some (.int (nI i)), some (.int 0), x] [] h Q) → WP X mX11_which 1 20 36 [some (.ref 25), some (.int (nI i)), some (.int is9), some (.int (nI j))] [] h Q := by
  have li := ml.2.2 i hi
  have hn2 := ml.2.1
  have a := uC_4 li.2.2.2
  have b := uC_4 hs
  have wa := wd1_p (Nat.le_of_lt a.2.2)
  have wb := wd1_p (Nat.le_of_lt b.2.2)
  have hl := q.2.1.1
  intro m
  induction m with
  | zero =>
    intro j is9 h9 hj he k1 k0
    refine w_iload_n dX11_which_36 rfl rfl ?_
    refine w_aload_n dX11_which_37 rfl rfl ?_
    refine w_gs (b := 35) q.1 dX11_which_38 fX11_42 (by decide) rfl rfl (by decide) ?_
    refine w_iload_n dX11_which_41 rfl rfl ?_
    refine u_ld (c := 35) (by decide) q dX11_which_42 (vp_in_nI (show i < 200 by omega) (by decide)) ?_
    rw [nI_clamp (by omega), li.2.1]
    refine w_icmp_ge (tgt := 95) dX11_which_43 (by decide) (fun c_43 => ?_) (fun c_43 => absurd c_43 (not_not_intro (nI_le (by omega) (by omega))))
    rcases h9 with c | c
    · subst c; exact k0 (Or.inl rfl) _
    · subst c; exact k1 rfl rfl _
  | succ m ih =>
    intro j is9 h9 hj he k1 k0
    refine w_iload_n dX11_which_36 rfl rfl ?_
    refine w_aload_n dX11_which_37 rfl rfl ?_
    refine w_gs (b := 35) q.1 dX11_which_38 fX11_42 (by decide) rfl rfl (by decide) ?_
    refine w_iload_n dX11_which_41 rfl rfl ?_
    refine u_ld (c := 35) (by decide) q dX11_which_42 (vp_in_nI (show i < 200 by omega) (by decide)) ?_
    rw [nI_clamp (by omega), li.2.1]
    refine w_icmp_ge (tgt := 95) dX11_which_43 (by decide) (fun c_43 => absurd c_43 (nI_ge (by omega) (by omega))) (fun c_43 => ?_)
    refine w_iload_n dX11_which_46 rfl rfl ?_
    refine w_if_eq (tgt := 95) dX11_which_47 (by decide) (fun c_47 => ?_) (fun c_47 => ?_)
    · have c0 : is9 = 0 := c_47
      subst c0; exact k0 (Or.inl rfl) _
    · have i1 : is9 = 1 := h9.resolve_left c_47
      subst i1
      have hee := he rfl
      refine w_aload_n dX11_which_50 rfl rfl ?_
      refine w_gs (b := 30) q.1 dX11_which_51 fX11_23 (by decide) rfl rfl (by decide) ?_
      refine w_aload_n dX11_which_54 rfl rfl ?_
      refine w_gs (b := 34) q.1 dX11_which_55 fX11_39 (by decide) rfl rfl (by decide) ?_
      refine w_iload_n dX11_which_58 rfl rfl ?_
      refine u_ld (c := 34) (by decide) q dX11_which_59 (vp_in_nI (show i < 200 by omega) (by decide)) ?_
      rw [nI_clamp (by omega), li.1]
      refine w_iload_n dX11_which_60 rfl rfl ?_
      refine w_iadd dX11_which_61 ?_
      rw [nI_add]
      refine u_tp (by omega) q dX11_which_62 ?_
      refine w_s1 (d2 := 0) (L2 := 0) dX11_which_63 vX11_193 rfl (by decide) (Nat.le_of_ble_eq_true rfl) (by decide) (by decide) ?_
      refine T_gr ?_
      refine k_i rfl ?_
      refine w_aload_n dX11_which_66 rfl rfl ?_
      refine w_gs (b := 30) q.1 dX11_which_67 fX11_23 (by decide) rfl rfl (by decide) ?_
      refine w_aload_n dX11_which_70 rfl rfl ?_
      refine u_get (k := 42) (by decide) q dX11_which_71 fX11_211 ?_
      refine w_iload_n dX11_which_74 rfl rfl ?_
      refine w_iadd dX11_which_75 ?_
      rw [e2, nI_add]
      refine u_tp (by omega) q dX11_which_76 ?_
      refine w_s1 (d2 := 0) (L2 := 0) dX11_which_77 vX11_193 rfl (by decide) (Nat.le_of_ble_eq_true rfl) (by decide) (by decide) ?_
      refine T_gr ?_
      refine k_i rfl ?_
      refine w_icmp_ne (tgt := 87) dX11_which_80 (by decide) (fun c_80 => ?_) (fun c_80 => ?_)
      · refine w_iconst dX11_which_87 (v := 0) (by decide) ?_
        refine w_istore_n dX11_which_88 rfl (by decide) ?_
        refine w_iinc (v := (nI (j + 1))) dX11_which_89 rfl (nI_1 j) (by decide) ?_
        refine w_goto (tgt := 36) dX11_which_92 (by decide) ?_
        exact ih (j + 1) 0 (Or.inl rfl) (by omega) (fun e => absurd e (by decide)) (fun e => absurd e (by decide)) (fun _ => k0 (Or.inr (by rw [alF, decide_eq_false c_80]; rfl)))
      · refine w_iconst dX11_which_83 (v := 1) (by decide) ?_
        refine w_goto (tgt := 88) dX11_which_84 (by decide) ?_
        refine w_istore_n dX11_which_88 rfl (by decide) ?_
        refine w_iinc (v := (nI (j + 1))) dX11_which_89 rfl (nI_1 j) (by decide) ?_
        refine w_goto (tgt := 36) dX11_which_92 (by decide) ?_
        exact ih (j + 1) 1 (Or.inr rfl) (by omega) (fun _ => hee) (fun _ e => k1 rfl (by rw [alF, decide_eq_true c_80]; exact e)) (fun e => k0 (Or.inr (by rw [alF, decide_eq_true c_80]; exact e.resolve_left (by decide))))

set_option maxRecDepth 20000 in
set_option maxHeartbeats 4000000 in
theorem L_wo {X : Nat × (Nat → Int32)} {h : PH} {Q : Option Value → PH → Prop} {T : List Int32} {ψ : Nat → Nat → Int32} {s : Nat} {l : List (Nat × Nat)} (hB : Byt T) (ml : ML T l ψ) (hs : uC T s = 4) (e2 : ψ 25 42 = nI s) (e3 : ψ 25 43 = nI (wd1 T s)) (q : RU h T ψ) : ∀ (m i : Nat) (x2 x3 : Option Value), i + m = l.length → (∀ j, j < l.length → fI T (fun i => (l.getD i (0, 0)).1) s m i = some j → Q (some (.int (nI j))) h) → (fI T (fun i => (l.getD i (0, 0)).1) s m i = none → Q (some (.int (-1))) h) → WP X mX11_which 1 20 2 [some (.ref 25), some (.int (nI i)), x2, x3] [] h Q := by
  have hn2 := ml.2.1
  have b := uC_4 hs
  have wb := wd1_p (Nat.le_of_lt b.2.2)
  have hl := q.2.1.1
  intro m
  induction m with
  | zero =>
    intro i x2 x3 hi k1 k0
    refine w_iload_n dX11_which_2 rfl rfl ?_
    refine w_aload_n dX11_which_3 rfl rfl ?_
    refine u_get (k := 36) (by decide) q dX11_which_4 fX11_262 ?_
    refine w_icmp_ge (tgt := 107) dX11_which_7 (by decide) (fun c_7 => ?_) (fun c_7 => absurd c_7 (not_not_intro (by rw [ml.1]; exact nI_le (by omega) (by omega))))
    refine w_iconst dX11_which_107 (v := (-1)) (by decide) ?_
    refine w_iret dX11_which_108 (fun _ e => by cases e; rfl) ?_
    exact k0 rfl
  | succ m ih =>
    intro i x2 x3 hi k1 k0
    have hi2 : i < l.length := by omega
    have li := ml.2.2 i hi2
    have a := uC_4 li.2.2.2
    have wa := wd1_p (Nat.le_of_lt a.2.2)
    have se := sw_e hB li.2.2.2 hs
    have nx9 : ∀ x2 x3, sameW T (l.getD i (0, 0)).1 s = false → WP X mX11_which 1 20 101 [some (.ref 25), some (.int (nI i)), x2, x3] [] h Q := by
      intro x2 x3 e
      refine w_iinc (v := (nI (i + 1))) dX11_which_101 rfl (nI_1 i) (by decide) ?_
      refine w_goto (tgt := 2) dX11_which_104 (by decide) ?_
      exact ih (i + 1) _ _ (by omega) (fun j hj e9 => k1 j hj (by rw [fI, if_neg (by rw [e]; decide)]; exact e9)) (fun e9 => k0 (by rw [fI, if_neg (by rw [e]; decide)]; exact e9))
    refine w_iload_n dX11_which_2 rfl rfl ?_
    refine w_aload_n dX11_which_3 rfl rfl ?_
    refine u_get (k := 36) (by decide) q dX11_which_4 fX11_262 ?_
    refine w_icmp_ge (tgt := 107) dX11_which_7 (by decide) (fun c_7 => absurd c_7 (by rw [ml.1]; exact nI_ge (by omega) (by omega))) (fun c_7 => ?_)
    refine w_aload_n dX11_which_10 rfl rfl ?_
    refine w_gs (b := 35) q.1 dX11_which_11 fX11_42 (by decide) rfl rfl (by decide) ?_
    refine w_iload_n dX11_which_14 rfl rfl ?_
    refine u_ld (c := 35) (by decide) q dX11_which_15 (vp_in_nI (show i < 200 by omega) (by decide)) ?_
    rw [nI_clamp (by omega), li.2.1]
    refine w_aload_n dX11_which_16 rfl rfl ?_
    refine u_get (k := 43) (by decide) q dX11_which_17 fX11_223 ?_
    refine w_aload_n dX11_which_20 rfl rfl ?_
    refine u_get (k := 42) (by decide) q dX11_which_21 fX11_211 ?_
    refine w_isub dX11_which_24 ?_
    refine w_icmp_ne (tgt := 32) dX11_which_25 (by decide) (fun c_25 => ?_) (fun c_25 => ?_)
    · rw [e3, e2, nI_sub wb.1, nI_eq (by omega) (by omega)] at c_25
      refine w_iconst dX11_which_32 (v := 0) (by decide) ?_
      refine w_istore_n dX11_which_33 rfl (by decide) ?_
      refine w_iconst dX11_which_34 (v := 0) (by decide) ?_
      refine w_istore_n dX11_which_35 rfl (by decide) ?_
      refine L_wi hi2 (Or.inr trivial) hB ml hs e2 e3 q _ 0 0 (Or.inl rfl) (Nat.zero_add _) (fun e => absurd e (by decide)) (fun e => absurd e (by decide)) (fun _ x => ?_)
      refine w_iload_n dX11_which_95 rfl rfl ?_
      refine w_if_eq (tgt := 101) dX11_which_96 (by decide) (fun c_96 => ?_) (fun c_96 => absurd c_96 (by decide))
      exact nx9 _ _ (by rw [se, decide_eq_false c_25]; rfl)
    · rw [e3, e2, nI_sub wb.1, nI_eq (by omega) (by omega)] at c_25
      refine w_iconst dX11_which_28 (v := 1) (by decide) ?_
      refine w_goto (tgt := 33) dX11_which_29 (by decide) ?_
      refine w_istore_n dX11_which_33 rfl (by decide) ?_
      refine w_iconst dX11_which_34 (v := 0) (by decide) ?_
      refine w_istore_n dX11_which_35 rfl (by decide) ?_
      refine L_wi hi2 (Or.inr trivial) hB ml hs e2 e3 q _ 0 1 (Or.inr rfl) (Nat.zero_add _) (fun _ => c_25) (fun _ e x => ?_) (fun e x => ?_)
      · refine w_iload_n dX11_which_95 rfl rfl ?_
        refine w_if_eq (tgt := 101) dX11_which_96 (by decide) (fun c_96 => absurd c_96 (by decide)) (fun c_96 => ?_)
        refine w_iload_n dX11_which_99 rfl rfl ?_
        refine w_iret dX11_which_100 (fun _ e => by cases e; rfl) ?_
        exact k1 i hi2 (by rw [fI, if_pos (by rw [se, decide_eq_true c_25, e]; rfl)])
      · refine w_iload_n dX11_which_95 rfl rfl ?_
        refine w_if_eq (tgt := 101) dX11_which_96 (by decide) (fun c_96 => ?_) (fun c_96 => absurd c_96 (by decide))
        exact nx9 _ _ (by rw [se, decide_eq_true c_25, e.resolve_left (by decide)]; rfl)

set_option maxRecDepth 20000 in
set_option maxHeartbeats 4000000 in
/-- which() -/
theorem T_which {X : Nat × (Nat → Int32)} {h : PH} {Q : Option Value → PH → Prop} {T : List Int32} {ψ : Nat → Nat → Int32} {s : Nat} {l : List (Nat × Nat)} (hB : Byt T) (ml : ML T l ψ) (hs : uC T s = 4) (e2 : ψ 25 42 = nI s) (e3 : ψ 25 43 = nI (wd1 T s)) (q : RU h T ψ) (k1 : ∀ j, j < l.length → fI T (fun i => (l.getD i (0, 0)).1) s l.length 0 = some j → Q (some (.int (nI j))) h) (k0 : fI T (fun i => (l.getD i (0, 0)).1) s l.length 0 = none → Q (some (.int (-1))) h) : WP X mX11_which 1 20 0 (en 4 [.ref 25]) [] h Q := by
  refine w_iconst dX11_which_0 (v := 0) (by decide) ?_
  refine w_istore_n dX11_which_1 rfl (by decide) ?_
  exact L_wo hB ml hs e2 e3 q l.length 0 _ _ (by omega) k1 k0

