/-! WHERE THE LAW STARTS: what the Statement gives of the constants, under the numbers of the pure machine -/
def opNm : List String := ["ORIG", "BLKW", "STRINGZ", "END", "BRNZP", "BR", "BRN", "BRZ", "BRP", "BRNZ", "BRNP", "BRZP", "ADD", "ADD_NUMBER", "AND", "AND_NUMBER", "NOT", "LD", "LDI", "LEA", "ST", "STI", "LDR", "STR", "RET", "JMP", "JSR", "JSRR", "RTI", "GETC", "OUT", "PUTS", "IN", "PUTSP", "HALT", "TRAP", "FILL"]
def obL : List Nat := [46, 74, 81, 58, 88, 95, 102, 109, 116, 123, 130, 137, 144, 151, 158, 165, 172, 179, 186, 193, 200, 207, 214, 221, 228, 235, 242, 249, 256, 263, 270, 277, 284, 291, 298, 305, 65]
def sbL : List Nat := [338, 343, 349, 355, 360, 380, 404, 423, 443, 471, 497, 522, 686, 695, 700, 708, 712, 721, 726, 735, 740, 752, 757, 766, 771, 777, 784, 791, 798, 806, 814, 822, 829, 836, 843, 850, 856, 862, 868, 875, 882, 888, 895, 902, 909, 916, 923, 930, 935, 942, 947, 955, 962, 970, 977, 985, 991, 1000, 1008, 1016]
def srL : List Nat := [605, 606, 624, 625, 630, 701, 734, 742, 760, 852, 860, 1217, 1431, 1432, 1433, 1434, 1435, 1436, 1437, 1438, 1439, 1440, 1441, 1442, 1443, 1444, 1445, 1446, 1447, 1448, 1449, 1450, 1451, 1452, 1453, 1454, 1455, 1456, 1457, 1458, 1459, 1460, 1461, 1462, 1463, 1464, 1465, 1466, 1467, 1468, 1469, 1470, 1471, 1472, 1473, 1474, 1475, 1476, 1477, 1478]
def kR0 (i : Nat) : String × Nat × String × Nat := kR.getD i ("", 0, "", 0)
def opT9 (i : Nat) : Term := .static RX5 (opNm.getD i "") "LSixteenDesk$Op;"
def stT9 (i : Nat) : Term := .string (kR0 i).1 (kR0 i).2.1
def vaT9 (i : Nat) : Term := .field (stT9 i) "java/lang/String" "value" "[B"
def alT9 : Term := .static RX5 "ALL" "[LSixteenDesk$Op;"
abbrev FL9 : List Cond := flatC (Jvm.Cond.and given_1 narrow_1)
def ow9 (i : Nat) : List Cond := [.exactly (opT9 i) RX5, .eq (.field (opT9 i) "java/lang/Enum" "ordinal" "I") (.int (Int32.ofNat i)), .eq (.field (opT9 i) RX5 "text" "Ljava/lang/String;") (stT9 (opTx.getD i 0)), .eq (.field (opT9 i) RX5 "shape" "Ljava/lang/String;") (stT9 (opSh.getD i 0)), .eq (.field (opT9 i) RX5 "base" "I") (.int (opBase.getD i 0)), .eq (.field (opT9 i) RX5 "mask" "I") (.int (opMask.getD i 0)), .eq (.field (opT9 i) RX5 "signs" "J") (.long (opSigns.getD i 0))]
def sw9 (i : Nat) : List Cond := [.exactly (stT9 i) "java/lang/String", .eq (.field (stT9 i) "java/lang/String" "coder" "B") (.int 0), .arrayOf (vaT9 i) .byte, .eq (.length (vaT9 i)) (.int (Int32.ofNat (strB.getD i []).length))] ++ (List.range (strB.getD i []).length).map (fun j => .eq (.elem (vaT9 i) (.int (Int32.ofNat j))) (.int ((strB.getD i []).getD j 0)))
theorem ow_in : ∀ i, i < 37 → (FL9.drop (obL.getD i 0)).take 7 = ow9 i := by decide +kernel
theorem sw_in : ∀ i, i < 60 → (FL9.drop (sbL.getD i 0)).take (4 + (strB.getD i []).length) = sw9 i := by decide +kernel
theorem el_in : ∀ i, i < 37 → FL9[9 + i]? = some (Cond.eq (.elem alT9 (.int (Int32.ofNat i))) (opT9 i)) := by decide +kernel
theorem al_a : FL9[6]? = some (Cond.arrayOf alT9 (.object RX5)) := by decide +kernel
theorem al_l : FL9[7]? = some (Cond.eq (.length alT9) (.int (Int32.ofNat 37))) := by decide +kernel
theorem cs_e : FL9[53]? = some (Cond.eq (.static "java/lang/String" "COMPACT_STRINGS" "Z") (.int 1)) := by decide +kernel
theorem rf_1 : FL9[54]? = some (Cond.isRef (.static "jdk/internal/util/Preconditions" "SIOOBE_FORMATTER" "Ljava/util/function/BiFunction;")) := by decide +kernel
theorem rf_2 : FL9[72]? = some (Cond.isRef (.static "java/lang/Throwable" "UNASSIGNED_STACK" "[Ljava/lang/StackTraceElement;")) := by decide +kernel
theorem rf_3 : FL9[73]? = some (Cond.isRef (.static "java/lang/Throwable" "SUPPRESSED_SENTINEL" "Ljava/util/List;")) := by decide +kernel
theorem sr_in : ∀ i, i < 60 → tables_1[srL.getD i 0]? = some (Cond.stringRef (kR0 i).1 (kR0 i).2.1 (kR0 i).2.2.1) := by decide +kernel
theorem kR_id : ∀ i, i < 60 → (kR0 i).2.2.2 = 1001000 + i := by decide +kernel
theorem txs_lt : ∀ i, i < 37 → opTx.getD i 0 < 60 ∧ opSh.getD i 0 < 60 := by decide +kernel
theorem sl_lt : ∀ i, i < 60 → (strB.getD i []).length < 2 ^ 31 := by decide +kernel
def rv9 (o : Option Value) : Nat := match o with
  | some (.ref a) => a
  | _ => 0
def ad9 (args : Array Value) (s : State) (b : Nat) (n : Nat) : Nat :=
  if n < 1001000 then rv9 ((opT9 (n - 1000000)).eval args s none [] s) else if n < 1002000 then rv9 ((stT9 (n - 1001000)).eval args s none [] s) else if n < 1003000 then rv9 ((vaT9 (n - 1002000)).eval args s none [] s) else if n < 1004000 then rv9 (alT9.eval args s none [] s) else b
section ST9
variable {args : Array Value} {s : State} {b : Nat}
theorem ad_op {i : Nat} (hi : i < 1000) : ad9 args s b (1000000 + i) = rv9 ((opT9 i).eval args s none [] s) := by
  unfold ad9; rw [if_pos (by omega), Nat.add_sub_cancel_left]
theorem ad_st {i : Nat} (hi : i < 1000) : ad9 args s b (1001000 + i) = rv9 ((stT9 i).eval args s none [] s) := by
  unfold ad9; rw [if_neg (by omega), if_pos (by omega), Nat.add_sub_cancel_left]
theorem ad_va {i : Nat} (hi : i < 1000) : ad9 args s b (1002000 + i) = rv9 ((vaT9 i).eval args s none [] s) := by
  unfold ad9; rw [if_neg (by omega), if_neg (by omega), if_pos (by omega), Nat.add_sub_cancel_left]
theorem ad_al : ad9 args s b 1003000 = rv9 (alT9.eval args s none [] s) := by
  unfold ad9; rw [if_neg (by omega), if_neg (by omega), if_neg (by omega), if_pos (by omega)]
theorem ad_b : ad9 args s b 1004000 = b := by
  unfold ad9; rw [if_neg (by omega), if_neg (by omega), if_neg (by omega), if_neg (by omega)]
theorem gd_int (l : List Int32) {j : Nat} (hj : j < l.length) (ad : Nat → Nat) : some (Value.int (l.getD j 0)) = some (cv ad ((l.map Value.int).getD j .null)) := by
  rw [List.getD_eq_getElem?_getD, List.getD_eq_getElem?_getD, List.getElem?_map, List.getElem?_eq_getElem hj]; rfl
theorem ow_b {i : Nat} (hF : ∀ w ∈ FL9, w.before args s = true) (hi : i < 37) : ∀ w ∈ ow9 i, w.before args s = true := fun w hw => hF w (by
  rw [← ow_in i hi] at hw; exact List.mem_of_mem_drop (List.mem_of_mem_take hw))
theorem sw_b {i : Nat} (hF : ∀ w ∈ FL9, w.before args s = true) (hi : i < 60) : ∀ w ∈ sw9 i, w.before args s = true := fun w hw => hF w (by
  rw [← sw_in i hi] at hw; exact List.mem_of_mem_drop (List.mem_of_mem_take hw))
theorem ex_ref {t : Term} {nm : String} (h : (Cond.exactly t nm).before args s = true) : t.eval args s none [] s = some (.ref (rv9 (t.eval args s none [] s))) := by
  obtain ⟨a2, c, cA, kA, q1, -⟩ := Cond.exactly_spec (args := args) (first := s) (o := none) (s := s) (idx := []) (t := t) (cls := nm) h
  rw [q1]; rfl
theorem ev_op {i : Nat} (hF : ∀ w ∈ FL9, w.before args s = true) (hi : i < 37) : (opT9 i).eval args s none [] s = some (.ref (ad9 args s b (1000000 + i))) := by
  rw [ad_op (by omega)]; exact ex_ref (ow_b hF hi _ List.mem_cons_self)
theorem ev_st {i : Nat} (hF : ∀ w ∈ FL9, w.before args s = true) (hi : i < 60) : (stT9 i).eval args s none [] s = some (.ref (ad9 args s b (1001000 + i))) := by
  rw [ad_st (by omega)]; exact ex_ref (sw_b hF hi _ List.mem_cons_self)
theorem st_T {i : Nat} {A : Nat → Prop} (hF : ∀ w ∈ FL9, w.before args s = true) (hA : ∀ a : Nat, a < s.heap.size → ¬ A a) (hi : i < 60) : (vaT9 i).eval args s none [] s = some (.ref (ad9 args s b (1002000 + i))) ∧ va_T .byte (ad9 args s b (1002000 + i)) (((strB.getD i []).map Value.int).length) (fun j => cv (ad9 args s b) (((strB.getD i []).map Value.int).getD j .null)) A s s.heap := by
  have hw := sw_b hF hi
  rw [List.length_map]
  obtain ⟨t, ht, hT⟩ := va_Tof (A := A) (f := fun j => cv (ad9 args s b) (((strB.getD i []).map Value.int).getD j .null)) (sl_lt i hi) (hw _ (by unfold sw9; exact List.mem_append_left _ (List.mem_cons_of_mem _ (List.mem_cons_of_mem _ List.mem_cons_self)))) (va_eqt (hw _ (by unfold sw9; exact List.mem_append_left _ (List.mem_cons_of_mem _ (List.mem_cons_of_mem _ (List.mem_cons_of_mem _ List.mem_cons_self)))))) (fun j hj => by
    have h1 := va_eqt (hw (.eq (.elem (vaT9 i) (.int (Int32.ofNat j))) (.int ((strB.getD i []).getD j 0))) (by unfold sw9; exact List.mem_append_right _ (List.mem_map.mpr ⟨j, List.mem_range.mpr hj, rfl⟩)))
    rw [h1]; exact gd_int _ hj _) hA
  have e : ad9 args s b (1002000 + i) = t := by rw [ad_va (by omega), ht]; rfl
  rw [e]
  exact ⟨ht, hT⟩
theorem al_T {A : Nat → Prop} (hF : ∀ w ∈ FL9, w.before args s = true) (hA : ∀ a : Nat, a < s.heap.size → ¬ A a) : alT9.eval args s none [] s = some (.ref (ad9 args s b 1003000)) ∧ va_T (.object RX5) (ad9 args s b 1003000) (((List.range 37).map (fun i => Value.ref (1000000 + i))).length) (fun j => cv (ad9 args s b) (((List.range 37).map (fun i => Value.ref (1000000 + i))).getD j .null)) A s s.heap := by
  have hl : ((List.range 37).map (fun i => Value.ref (1000000 + i))).length = 37 := by simp
  rw [hl]
  obtain ⟨t, ht, hT⟩ := va_Tof (A := A) (N := 37) (f := fun j => cv (ad9 args s b) (((List.range 37).map (fun i => Value.ref (1000000 + i))).getD j .null)) (by decide) (hF _ (List.mem_of_getElem? al_a)) (va_eqt (hF _ (List.mem_of_getElem? al_l))) (fun j hj => by
    rw [va_eqv (hF _ (List.mem_of_getElem? (el_in j hj))) (ev_op (b := b) hF hj), List.getD_eq_getElem?_getD, List.getElem?_map, List.getElem?_range hj]; rfl) hA
  have e : ad9 args s b 1003000 = t := by rw [ad_al, ht]; rfl
  rw [e]
  exact ⟨ht, hT⟩
theorem op_inj {i j : Nat} (hF : ∀ w ∈ FL9, w.before args s = true) (hi : i < 37) (hj : j < 37) (e : ad9 args s b (1000000 + i) = ad9 args s b (1000000 + j)) : i = j := by
  have h1 := va_eqt (ow_b hF hi _ (List.mem_cons_of_mem _ List.mem_cons_self))
  have h2 := va_eqt (ow_b hF hj _ (List.mem_cons_of_mem _ List.mem_cons_self))
  rw [va_fe (ev_op (b := b) hF hi)] at h1
  rw [va_fe (ev_op (b := b) hF hj), ← e, h1] at h2
  have h3 : nI i = nI j := by injection h2 with h2; injection h2
  exact (nI_eq (by omega) (by omega)).mp h3
end ST9
theorem NW_of {args : Array Value} {s : State} (hts : ∀ w ∈ lw_tbl, w.before args s = true) : NW s := by
  intro w hw
  have h1 := List.mem_filter.mp hw
  have h2 := hts w (List.mem_append_right _ h1.1)
  revert h2
  exact isN_cases (P := fun w => w.before args s = true → va_Nw w s) (fun _ _ _ _ _ _ h => va_Nw.of rfl h) (fun _ _ _ _ h => va_Nw.of rfl h) (fun _ h => va_Nw.of rfl h) (fun _ _ h => va_Nw.of rfl h) w h1.2
set_option maxHeartbeats 4000000 in
theorem KC_of {X : Nat × (Nat → Int32)} {args : Array Value} {s : State} {b : Nat} (hts : ∀ w ∈ lw_tbl, w.before args s = true) (hF : ∀ w ∈ FL9, w.before args s = true) (hX : va_X b X.1 X.2 s s.heap) (hb : b < s.heap.size) : KC X (ad9 args s b) (fun q => s.heap.size ≤ q) s s.heap := by
  have hA : ∀ a : Nat, a < s.heap.size → ¬ (fun q : Nat => s.heap.size ≤ q) a := fun a h => Nat.not_le.mpr h
  have hAA : AA s := (hts (Cond.arrayOver (.array .int)) (List.mem_append_right _ (List.mem_of_getElem? (i := 183) (by decide +kernel))) : (Cond.arrayOver (.array .int)).before args s = true)
  refine ⟨NW_of hts, hAA, fun q hq => ?_, fun q hq => ?_, fun q hq => ?_, fun q hq => ?_, fun q hq => ?_, fun q hq => ?_, fun i j hi hj e => op_inj hF hi hj e, by rw [ad_b]; exact hX, by rw [ad_b]; exact hb, by rw [ad_b]; exact hA b hb⟩
  · rcases List.mem_append.mp hq with hq | hq
    · obtain ⟨i, hi, rfl⟩ := List.mem_map.mp hq
      have hi := List.mem_range.mp hi
      exact va_Oof (ow_b hF hi _ List.mem_cons_self) (ev_op hF hi) hA
    · obtain ⟨i, hi, rfl⟩ := List.mem_map.mp hq
      have hi := List.mem_range.mp hi
      exact va_Oof (sw_b hF hi _ List.mem_cons_self) (ev_st hF hi) hA
  · rcases List.mem_append.mp hq with hq | hq
    · obtain ⟨i, hi, rfl⟩ := List.mem_map.mp hq
      have hi := List.mem_range.mp hi
      exact vk_OFof (ev_op hF hi) (va_eqt (ow_b hF hi _ (List.mem_cons_of_mem _ (List.mem_cons_of_mem _ (List.mem_cons_of_mem _ (List.mem_cons_of_mem _ List.mem_cons_self)))))) hA
    rcases List.mem_append.mp hq with hq | hq
    · obtain ⟨i, hi, rfl⟩ := List.mem_map.mp hq
      have hi := List.mem_range.mp hi
      exact vk_OFof (ev_op hF hi) (va_eqt (ow_b hF hi _ (List.mem_cons_of_mem _ (List.mem_cons_of_mem _ (List.mem_cons_of_mem _ (List.mem_cons_of_mem _ (List.mem_cons_of_mem _ List.mem_cons_self))))))) hA
    rcases List.mem_append.mp hq with hq | hq
    · obtain ⟨i, hi, rfl⟩ := List.mem_map.mp hq
      have hi := List.mem_range.mp hi
      exact vk_OFof (ev_op hF hi) (va_eqtl (ow_b hF hi _ (List.mem_cons_of_mem _ (List.mem_cons_of_mem _ (List.mem_cons_of_mem _ (List.mem_cons_of_mem _ (List.mem_cons_of_mem _ (List.mem_cons_of_mem _ List.mem_cons_self)))))))) hA
    rcases List.mem_append.mp hq with hq | hq
    · obtain ⟨i, hi, rfl⟩ := List.mem_map.mp hq
      have hi := List.mem_range.mp hi
      exact vk_OFof (ev_op hF hi) (va_eqv (ow_b hF hi _ (List.mem_cons_of_mem _ (List.mem_cons_of_mem _ List.mem_cons_self))) (ev_st hF (txs_lt i hi).1)) hA
    rcases List.mem_append.mp hq with hq | hq
    · obtain ⟨i, hi, rfl⟩ := List.mem_map.mp hq
      have hi := List.mem_range.mp hi
      exact vk_OFof (ev_op hF hi) (va_eqv (ow_b hF hi _ (List.mem_cons_of_mem _ (List.mem_cons_of_mem _ (List.mem_cons_of_mem _ List.mem_cons_self)))) (ev_st hF (txs_lt i hi).2)) hA
    rcases List.mem_append.mp hq with hq | hq
    · obtain ⟨i, hi, rfl⟩ := List.mem_map.mp hq
      have hi := List.mem_range.mp hi
      exact vk_OFof (ev_st hF hi) (va_eqt (sw_b hF hi _ (List.mem_append_left _ (List.mem_cons_of_mem _ List.mem_cons_self)))) hA
    · obtain ⟨i, hi, rfl⟩ := List.mem_map.mp hq
      have hi := List.mem_range.mp hi
      exact vk_OFof (ev_st hF hi) (st_T (A := fun q => s.heap.size ≤ q) hF hA hi).1 hA
  · unfold kZ at hq
    simp only [List.mem_cons, List.not_mem_nil, or_false] at hq
    rcases hq with rfl | rfl | rfl | rfl | rfl
    · exact va_Zref (hts _ (List.mem_append_right _ (List.mem_of_getElem? (i := 367) (by decide +kernel)))) (hts _ (List.mem_append_right _ (List.mem_of_getElem? (i := 13) (by decide +kernel)))) (al_T (A := fun q => s.heap.size ≤ q) hF hA).1 hA
    · exact va_Zref (hts _ (List.mem_append_right _ (List.mem_of_getElem? (i := 398) (by decide +kernel)))) (hts _ (List.mem_append_right _ (List.mem_of_getElem? (i := 13) (by decide +kernel)))) (ev_op (i := 0) hF (by decide)) hA
    · exact va_Zref (hts _ (List.mem_append_right _ (List.mem_of_getElem? (i := 506) (by decide +kernel)))) (hts _ (List.mem_append_right _ (List.mem_of_getElem? (i := 13) (by decide +kernel)))) (ev_op (i := 3) hF (by decide)) hA
    · exact va_Zref (hts _ (List.mem_append_right _ (List.mem_of_getElem? (i := 597) (by decide +kernel)))) (hts _ (List.mem_append_right _ (List.mem_of_getElem? (i := 13) (by decide +kernel)))) (ev_op (i := 36) hF (by decide)) hA
    · exact va_Zof (hts _ (List.mem_append_right _ (List.mem_of_getElem? (i := 422) (by decide +kernel)))) (hts _ (List.mem_append_right _ (List.mem_of_getElem? (i := 14) (by decide +kernel)))) (va_eqi (hF _ (List.mem_of_getElem? cs_e))) hA
  · rcases List.mem_append.mp hq with hq | hq
    · rw [List.mem_singleton.mp hq]; exact (al_T hF hA).2
    · obtain ⟨i, hi, rfl⟩ := List.mem_map.mp hq
      have hi := List.mem_range.mp hi
      exact (st_T hF hA hi).2
  · obtain ⟨i, hi⟩ := List.getElem?_of_mem hq
    have hl : i < kR.length := (List.getElem?_eq_some_iff.mp hi).1
    have hl : i < 60 := by
      have e : kR.length = 60 := by decide +kernel
      omega
    have e : kR0 i = q := by unfold kR0; rw [List.getD_eq_getElem?_getD, hi]; rfl
    have h2 : (Term.string q.1 q.2.1).eval args s none [] s = some (.ref (ad9 args s b q.2.2.2)) := by
      have := ev_st (b := b) hF hl
      rw [← kR_id i hl, e] at this
      unfold stT9 at this
      rw [e] at this; exact this
    have h1 : (Cond.stringRef q.1 q.2.1 q.2.2.1).before args s = true := by
      have := hts _ (List.mem_append_right _ (List.mem_of_getElem? (sr_in i hl)))
      rw [e] at this; exact this
    exact vk_R.of h1 h2
  · unfold kQ at hq
    simp only [List.mem_cons, List.not_mem_nil, or_false] at hq
    rcases hq with rfl | rfl | rfl
    · exact vx_Zqof (hts _ (List.mem_append_right _ (List.mem_of_getElem? (i := 438) (by decide +kernel)))) (hts _ (List.mem_append_right _ (List.mem_of_getElem? (i := 16) (by decide +kernel)))) (hF _ (List.mem_of_getElem? rf_1)) hA
    · exact vx_Zqof (hts _ (List.mem_append_right _ (List.mem_of_getElem? (i := 688) (by decide +kernel)))) (hts _ (List.mem_append_right _ (List.mem_of_getElem? (i := 18) (by decide +kernel)))) (hF _ (List.mem_of_getElem? rf_2)) hA
    · exact vx_Zqof (hts _ (List.mem_append_right _ (List.mem_of_getElem? (i := 690) (by decide +kernel)))) (hts _ (List.mem_append_right _ (List.mem_of_getElem? (i := 18) (by decide +kernel)))) (hF _ (List.mem_of_getElem? rf_3)) hA
theorem ar_of {args : Array Value} {s : State} {ty : FieldType} (h : (Cond.arrayClass ty).before args s = true) : ∃ c : ClassId, ArrOfT s c ty ∧ s.vm.findClass ("[" ++ ty.toString) = some c := by
  obtain ⟨c, k, comp, h1, h2, h3⟩ := Cond.arrayClass_spec h
  exact ⟨c, fun n z => ⟨fun k h => (by cases h), k, h2, comp, h3⟩, h1⟩
theorem va_K_of {args : Array Value} {s : State} (hts : ∀ w ∈ lw_tbl, w.before args s = true) : ∃ (D : va_G) (cy : Nat → ClassId), va_K D vwCl (ctys cy) s := by
  have htg : ∀ w ∈ Tg, w.before args s = true := fun w hw => hts w (List.mem_filter.mp hw).1
  have h0 : ∀ k : Nat, ∃ x : ClassId × (Nat → Nat), ∀ q, vwCl[k]? = some q → u_Kn s q.1 q.2.1 q.2.2 x.1 x.2 := by
    intro k
    match k with
    | 0 =>
      obtain ⟨c, f, h⟩ := u_known (n := 13) htg cl0.2.2.2.2.2 (htg _ n0.1)
      exact ⟨(c, f), fun q hq => by cases hq; exact h⟩
    | 1 =>
      obtain ⟨c, f, h⟩ := u_known (n := 2) htg cl1.2.2.2.2.2 (htg _ n1.1)
      exact ⟨(c, f), fun q hq => by cases hq; exact h⟩
    | 2 =>
      obtain ⟨c, f, h⟩ := u_known (n := 5) htg cl2.2.2.2.2.2 (htg _ n2.1)
      exact ⟨(c, f), fun q hq => by cases hq; exact h⟩
    | 3 =>
      obtain ⟨c, f, h⟩ := u_known (n := 7) htg cl3.2.2.2.2.2 (htg _ n3.1)
      exact ⟨(c, f), fun q hq => by cases hq; exact h⟩
    | 4 =>
      obtain ⟨c, f, h⟩ := u_known (n := 1) htg cl4.2.2.2.2.2 (htg _ n4.1)
      exact ⟨(c, f), fun q hq => by cases hq; exact h⟩
    | 5 =>
      obtain ⟨c, f, h⟩ := u_known (n := 3) htg cl5.2.2.2.2.2 (htg _ n5.1)
      exact ⟨(c, f), fun q hq => by cases hq; exact h⟩
    | 6 =>
      obtain ⟨c, f, h⟩ := u_known (n := 5) htg cl6.2.2.2.2.2 (htg _ n6.1)
      exact ⟨(c, f), fun q hq => by cases hq; exact h⟩
    | 7 =>
      obtain ⟨c, f, h⟩ := u_known (n := 8) htg cl7.2.2.2.2.2 (htg _ n7.1)
      exact ⟨(c, f), fun q hq => by cases hq; exact h⟩
    | 8 =>
      obtain ⟨c, f, h⟩ := u_known (n := 1) htg cl8.2.2.2.2.2 (htg _ n8.1)
      exact ⟨(c, f), fun q hq => by cases hq; exact h⟩
    | 9 =>
      obtain ⟨c, f, h⟩ := u_known (n := 4) htg cl9.2.2.2.2.2 (htg _ n9.1)
      exact ⟨(c, f), fun q hq => by cases hq; exact h⟩
    | 10 =>
      obtain ⟨c, f, h⟩ := u_known (n := 52) htg cl10.2.2.2.2.2 (htg _ n10.1)
      exact ⟨(c, f), fun q hq => by cases hq; exact h⟩
    | k + 11 => exact ⟨(0, fun _ => 0), fun q hq => by simp [vwCl] at hq⟩
  obtain ⟨f, hf⟩ := Classical.axiomOfChoice h0
  obtain ⟨cb, b1, b2⟩ := ar_of (ty := .byte) (hts _ (List.mem_append_right _ (List.mem_of_getElem? (i := 47) (by decide +kernel))))
  obtain ⟨ci, i1, i2⟩ := ar_of (ty := .int) (hts _ (List.mem_append_right _ (List.mem_of_getElem? (i := 88) (by decide +kernel))))
  obtain ⟨cl, l1, l2⟩ := ar_of (ty := .long) (hts _ (List.mem_append_right _ (List.mem_of_getElem? (i := 87) (by decide +kernel))))
  obtain ⟨comp, ca, kA, g1, g2, g3, g4, g5⟩ := arrayOverA_spec (args := args) (first := s) (o := none) (s := s) (idx := []) (hts _ (List.mem_append_right _ (List.mem_of_getElem? (i := 183) (by decide +kernel))) : (Cond.arrayOver (.array .int)).before args s = true)
  refine ⟨(fun k => (f k).1, fun k => (f k).2), fun k => if k = 0 then cb else if k = 1 then ci else if k = 2 then cl else ca, fun c q hq => hf c q hq, fun k q hk => ?_⟩
  match k, hk with
  | 0, hk => cases hk; exact ⟨b1, b2⟩
  | 1, hk => cases hk; exact ⟨i1, i2⟩
  | 2, hk => cases hk; exact ⟨l1, l2⟩
  | 3, hk => cases hk; exact ⟨fun n z => ⟨fun k h => (by cases h), kA, g3, comp, g4⟩, g5⟩
  | k + 4, hk => simp [ctys] at hk
