/-! WHAT LIES IN THE HEAP FOR GOOD, AND WORDS THAT GO ALONG WITH IT: the constants, under numbers from 1,000,000 on: Op's (1000000 ..), texts (1001000 ..), their bytes (1002000 ..), ALL (1003000), the script (1004000). -/
def opBase : List Int32 := [65536, 65536, 65536, 65536, 3584, 3584, 2048, 1024, 512, 3072, 2560, 1536, 4096, 4128, 20480, 20512, 36927, 8192, 40960, 57344, 12288, 45056, 24576, 28672, 49600, 49152, 18432, 16384, 32768, 61472, 61473, 61474, 61475, 61476, 61477, 61440, 0]
def opMask : List Int32 := [0, 0, 0, 0, 65024, 65024, 65024, 65024, 65024, 65024, 65024, 65024, 61496, 61472, 61496, 61472, 61503, 61440, 61440, 61440, 61440, 61440, 61440, 61440, 65535, 65087, 63488, 65087, 65535, 65535, 65535, 65535, 65535, 65535, 65535, 65280, 0]
def opSigns : List Int64 := [641540679, 638108375, 168453216723418, 9982852, 38332048, 146, 9358, 9370, 9360, 598938, 598928, 599696, 4356, 4356, 4996, 4996, 58324, 772, 49417, 49473, 1236, 79113, 49426, 79122, 74068, 41808, 42194, 2700434, 75017, 1856771, 62804, 4281619, 590, 274023632, 2102036, 5316688, 639144716]
def opTx : List Nat := [12, 18, 20, 14, 22, 24, 25, 26, 27, 28, 29, 30, 31, 31, 33, 33, 34, 36, 38, 39, 40, 41, 42, 44, 45, 46, 48, 50, 51, 52, 53, 54, 55, 56, 57, 58, 16]
def opSh : List Nat := [13, 19, 21, 15, 23, 23, 23, 23, 23, 23, 23, 23, 32, 32, 32, 32, 35, 37, 37, 37, 37, 37, 43, 43, 15, 47, 49, 47, 15, 15, 15, 15, 15, 15, 15, 59, 17]
def strB : List (List Int32) := [[32], [44, 32], [35, 45], [35], [48, 49, 50, 51, 52, 53, 54, 55, 56, 57, 65, 66, 67, 68, 69, 70], [116, 111, 108, 100, 58, 32, 119, 104, 97, 116, 32, 105, 115, 32, 48, 32, 116, 111, 32, 52], [119, 111, 114, 100, 58, 32, 110, 111, 110, 101, 32, 115, 117, 99, 104], [108, 97, 98, 101, 108, 58, 32, 110, 111, 110, 101, 32, 115, 117, 99, 104], [114, 117, 110, 58, 32, 115, 116, 101, 112, 115, 32, 105, 115, 32, 48, 32, 116, 111, 32, 50, 48, 48, 48, 48], [114, 101, 103, 105, 115, 116, 101, 114, 58, 32, 114, 32, 105, 115, 32, 48, 32, 116, 111, 32, 49, 49], [99, 111, 117, 110, 116, 58, 32, 119, 104, 97, 116, 32, 105, 115, 32, 48, 32, 116, 111, 32, 52], [65, 68, 68, 32, 65, 78, 68, 32, 78, 79, 84, 32, 76, 68, 32, 76, 68, 73, 32, 76, 69, 65, 32, 83, 84, 32, 83, 84, 73, 32, 76, 68, 82, 32, 83, 84, 82, 32, 74, 77, 80, 32, 74, 83, 82, 32, 74, 83, 82, 82, 32, 84, 82, 65, 80, 32, 82, 69, 84, 32, 82, 84, 73, 32, 71, 69, 84, 67, 32, 79, 85, 84, 32, 80, 85, 84, 83, 32, 73, 78, 32, 80, 85, 84, 83, 80, 32, 72, 65, 76, 84, 32, 66, 82, 32, 66, 82, 80, 32, 66, 82, 90, 32, 66, 82, 90, 80, 32, 66, 82, 78, 32, 66, 82, 78, 80, 32, 66, 82, 78, 90, 32, 66, 82, 78, 90, 80, 32, 46, 79, 82, 73, 71, 32, 46, 70, 73, 76, 76, 32, 46, 66, 76, 75, 87, 32, 46, 83, 84, 82, 73, 78, 71, 90, 32, 46, 69, 78, 68, 32], [46, 79, 82, 73, 71], [71], [46, 69, 78, 68], [], [46, 70, 73, 76, 76], [70], [46, 66, 76, 75, 87], [66], [46, 83, 84, 82, 73, 78, 71, 90], [84], [66, 82, 78, 90, 80], [87], [66, 82], [66, 82, 78], [66, 82, 90], [66, 82, 80], [66, 82, 78, 90], [66, 82, 78, 80], [66, 82, 90, 80], [65, 68, 68], [68, 65, 83], [65, 78, 68], [78, 79, 84], [68, 65], [76, 68], [68, 87], [76, 68, 73], [76, 69, 65], [83, 84], [83, 84, 73], [76, 68, 82], [68, 65, 79], [83, 84, 82], [82, 69, 84], [74, 77, 80], [65], [74, 83, 82], [74], [74, 83, 82, 82], [82, 84, 73], [71, 69, 84, 67], [79, 85, 84], [80, 85, 84, 83], [73, 78], [80, 85, 84, 83, 80], [72, 65, 76, 84], [84, 82, 65, 80], [86]]
def kR : List (String × Nat × String × Nat) := [(RX9, 46, " ", 1001000), (RX9, 48, ", ", 1001001), (RX9, 87, "#-", 1001002), (RX9, 89, "#", 1001003), (RX9, 91, "0123456789ABCDEF", 1001004), (RX10, 82, "told: what is 0 to 4", 1001005), (RX10, 87, "word: none such", 1001006), (RX10, 93, "label: none such", 1001007), (RX10, 111, "run: steps is 0 to 20000", 1001008), (RX10, 121, "register: r is 0 to 11", 1001009), (RX10, 172, "count: what is 0 to 4", 1001010), (RX11, 235, "ADD AND NOT LD LDI LEA ST STI LDR STR JMP JSR JSRR TRAP RET RTI GETC OUT PUTS IN PUTSP HALT BR BRP BRZ BRZP BRN BRNP BRNZ BRNZP .ORIG .FILL .BLKW .STRINGZ .END ", 1001011), (RX5, 172, ".ORIG", 1001012), (RX5, 174, "G", 1001013), (RX5, 190, ".END", 1001014), (RX5, 192, "", 1001015), (RX5, 263, ".FILL", 1001016), (RX5, 265, "F", 1001017), (RX5, 180, ".BLKW", 1001018), (RX5, 182, "B", 1001019), (RX5, 185, ".STRINGZ", 1001020), (RX5, 187, "T", 1001021), (RX5, 194, "BRNZP", 1001022), (RX5, 195, "W", 1001023), (RX5, 198, "BR", 1001024), (RX5, 199, "BRN", 1001025), (RX5, 200, "BRZ", 1001026), (RX5, 201, "BRP", 1001027), (RX5, 202, "BRNZ", 1001028), (RX5, 203, "BRNP", 1001029), (RX5, 204, "BRZP", 1001030), (RX5, 205, "ADD", 1001031), (RX5, 206, "DAS", 1001032), (RX5, 211, "AND", 1001033), (RX5, 213, "NOT", 1001034), (RX5, 214, "DA", 1001035), (RX5, 218, "LD", 1001036), (RX5, 219, "DW", 1001037), (RX5, 222, "LDI", 1001038), (RX5, 224, "LEA", 1001039), (RX5, 226, "ST", 1001040), (RX5, 227, "STI", 1001041), (RX5, 229, "LDR", 1001042), (RX5, 230, "DAO", 1001043), (RX5, 232, "STR", 1001044), (RX5, 233, "RET", 1001045), (RX5, 236, "JMP", 1001046), (RX5, 237, "A", 1001047), (RX5, 241, "JSR", 1001048), (RX5, 242, "J", 1001049), (RX5, 244, "JSRR", 1001050), (RX5, 245, "RTI", 1001051), (RX5, 247, "GETC", 1001052), (RX5, 248, "OUT", 1001053), (RX5, 250, "PUTS", 1001054), (RX5, 252, "IN", 1001055), (RX5, 254, "PUTSP", 1001056), (RX5, 256, "HALT", 1001057), (RX5, 258, "TRAP", 1001058), (RX5, 259, "V", 1001059)]
def kO : List (String × Nat) := (List.range 37).map (fun i => (RX5, 1000000 + i)) ++ (List.range 60).map (fun i => ("java/lang/String", 1001000 + i))
def kF : List (String × String × String × Value × Nat) := (List.range 37).map (fun i => (RX5, "base", "I", .int (opBase.getD i 0), 1000000 + i)) ++ ((List.range 37).map (fun i => (RX5, "mask", "I", .int (opMask.getD i 0), 1000000 + i)) ++ ((List.range 37).map (fun i => (RX5, "signs", "J", .long (opSigns.getD i 0), 1000000 + i)) ++ ((List.range 37).map (fun i => (RX5, "text", "Ljava/lang/String;", .ref (1001000 + opTx.getD i 0), 1000000 + i)) ++ ((List.range 37).map (fun i => (RX5, "shape", "Ljava/lang/String;", .ref (1001000 + opSh.getD i 0), 1000000 + i)) ++ ((List.range 60).map (fun i => ("java/lang/String", "coder", "B", .int 0, 1001000 + i)) ++ (List.range 60).map (fun i => ("java/lang/String", "value", "[B", .ref (1002000 + i), 1001000 + i)))))))
def kT : List (FieldType × Nat × List Value) := [(.object RX5, 1003000, (List.range 37).map (fun i => .ref (1000000 + i)))] ++ (List.range 60).map (fun i => (.byte, 1002000 + i, (strB.getD i []).map .int))
def kZ : List (String × String × String × Value) := [(RX5, "ALL", "[LSixteenDesk$Op;", .ref 1003000), (RX5, "ORIG", "LSixteenDesk$Op;", .ref 1000000), (RX5, "END", "LSixteenDesk$Op;", .ref 1000003), (RX5, "FILL", "LSixteenDesk$Op;", .ref 1000036), ("java/lang/String", "COMPACT_STRINGS", "Z", .int 1)]
def kQ : List (String × String × String) := [("jdk/internal/util/Preconditions", "SIOOBE_FORMATTER", "Ljava/util/function/BiFunction;"), ("java/lang/Throwable", "UNASSIGNED_STACK", "[Ljava/lang/StackTraceElement;"), ("java/lang/Throwable", "SUPPRESSED_SENTINEL", "Ljava/util/List;")]
def cv (ad : Nat → Nat) (v : Value) : Value := match v with
  | .ref a => .ref (ad a)
  | v => v
def NW (U : State) : Prop := ∀ w ∈ Tn, va_Nw w U
theorem isN_cases {P : Cond → Prop} (hf : ∀ a i b n d h, P (.fieldLinkNest a i b n d h)) (hm : ∀ a i x h, P (.methodLinkNest a i x h)) (hd : ∀ x, P (.declares x)) (hc : ∀ a b, P (.castable a b)) : ∀ w, isN w = true → P w := by
  intro w hw
  cases w <;> first | exact hf _ _ _ _ _ _ | exact hm _ _ _ _ | exact hd _ | exact hc _ _ | (exact absurd hw (by simp [isN]))
theorem NW.warm {s U : State} (hW : s.WarmedH U.vm) (h : NW s) : NW U := by
  intro w hw
  have h1 := h w hw
  revert h1
  exact isN_cases (P := fun w => va_Nw w s → va_Nw w U) (fun _ _ _ _ _ _ h1 => va_Nw.warmF hW h1) (fun _ _ _ _ h1 => va_Nw.warmM hW h1) (fun _ h1 => va_Nw.warmD hW h1) (fun _ _ h1 => va_Nw.warmC hW h1) w (List.mem_filter.mp hw).2
theorem NW.same {s U : State} (hv : U.vm = s.vm) (h : NW s) : NW U := by
  intro w hw
  have h1 := h w hw
  revert h1
  exact isN_cases (P := fun w => va_Nw w s → va_Nw w U) (fun _ _ _ _ _ _ h1 => va_Nw.same rfl hv.symm h1) (fun _ _ _ _ h1 => va_Nw.same rfl hv.symm h1) (fun _ h1 => va_Nw.same rfl hv.symm h1) (fun _ _ h1 => va_Nw.same rfl hv.symm h1) w (List.mem_filter.mp hw).2
theorem NW.use {s : State} {args : Array Value} (h : NW s) {w : Cond} (hw : w ∈ Tn) : w.before args s = true := by
  have h1 := h w hw
  revert h1
  exact isN_cases (P := fun w => va_Nw w s → w.before args s = true) (fun _ _ _ _ _ _ h1 => va_Nw.use rfl h1) (fun _ _ _ _ h1 => va_Nw.use rfl h1) (fun _ h1 => va_Nw.use rfl h1) (fun _ _ h1 => va_Nw.use rfl h1) w (List.mem_filter.mp hw).2
/-- the class of the rows of ints' rows is there -/
def AA (U : State) : Prop := (Jvm.Cond.arrayOver (.array .int)).before #[] U = true
theorem AA.use {A : Array Value} {U : State} (h : AA U) : (Jvm.Cond.arrayOver (.array .int)).before A U = true := h
theorem AA.moved {u U : State} (hvm : u.vm.Alike U.vm) (h : AA u) : AA U := by
  obtain ⟨comp, c, k, h1, h2, h3, h4, h5⟩ := arrayOverA_spec h
  obtain ⟨k', hk', he⟩ := hvm.2.2 _ _ h3
  have hi : (U.vm.classes.findIdx? fun (x : Class) => match x.kind with | .array component _ => component == comp | _ => false) = some c := by
    rw [hvm.findIdx?_eq _ (fun _ => rfl)]; exact h2
  have hkind : k'.kind = .array comp (.array .int) := by rw [he]; exact h4
  have f1 : U.vm.findClass (FieldType.array .int).toString = some comp := by rw [hvm.findClass]; exact h1
  have f2 : U.vm.findClass ("[" ++ (FieldType.array .int).toString) = some c := by rw [hvm.findClass]; exact h5
  unfold AA Cond.before Cond.holds
  simp only [Cond.value]
  rw [f1, Option.bind_some]
  refine (congrArg (fun o : Option Nat => (o.bind (fun c => (U.vm.classes[c]?).map fun (k : Class) => match k.kind with | .array _ ty => decide (ty = FieldType.array .int) && decide (U.vm.findClass ("[" ++ (FieldType.array .int).toString) = some c) | _ => false) == some true)) hi).trans ?_
  simp [hk', hkind, f2]
/-- the constants: objects, fields, statics, rows, texts, statics of which only 'a reference or null' is said; Op's are apart; the script -/
def KC (X : Nat × (Nat → Int32)) (ad : Nat → Nat) (A : Nat → Prop) (U : State) (H : Heap) : Prop := NW U ∧ AA U ∧ (∀ q ∈ kO, va_O q.1 (ad q.2) A U H) ∧ (∀ q ∈ kF, va_OF q.1 q.2.1 q.2.2.1 (cv ad q.2.2.2.1) (ad q.2.2.2.2) A U H) ∧ (∀ q ∈ kZ, va_Z q.1 q.2.1 q.2.2.1 (cv ad q.2.2.2) A U H) ∧ (∀ q ∈ kT, va_T q.1 (ad q.2.1) q.2.2.length (fun j => cv ad (q.2.2.getD j .null)) A U H) ∧ (∀ q ∈ kR, vk_R q.1 q.2.1 q.2.2.1 (ad q.2.2.2) U) ∧ (∀ q ∈ kQ, vx_Zq q.1 q.2.1 q.2.2 A U H) ∧ (∀ i j, i < 37 → j < 37 → ad (1000000 + i) = ad (1000000 + j) → i = j) ∧ va_X (ad 1004000) X.1 X.2 U H ∧ ad 1004000 < H.size ∧ ¬ A (ad 1004000)
section KCL
variable {X : Nat × (Nat → Int32)} {ad ad' : Nat → Nat} {A B : Nat → Prop} {s U : State} {H H1 : Heap}
theorem KC.warm (hW : s.WarmedH U.vm) (h : KC X ad A s H) : KC X ad A U H := by
  obtain ⟨h1, h2, h3, h4, h5, h6, h7, h8, h9, h10, h11, h12⟩ := h
  exact ⟨h1.warm hW, h2.moved hW.alike, fun q hq => (h3 q hq).moved hW.alike, fun q hq => (h4 q hq).moved hW.alike, fun q hq => (h5 q hq).moved hW.alike, fun q hq => (h6 q hq).moved hW.alike, fun q hq => (h7 q hq).warm hW, fun q hq => (h8 q hq).moved hW.alike, h9, h10.moved hW.alike, h11, h12⟩
theorem KC.same (hv : U.vm = s.vm) (h : KC X ad A s H) : KC X ad A U H := by
  obtain ⟨h1, h2, h3, h4, h5, h6, h7, h8, h9, h10, h11, h12⟩ := h
  have ha : s.vm.Alike U.vm := by rw [hv]; exact Vm.Alike.refl _
  exact ⟨h1.same hv, h2.moved ha, fun q hq => (h3 q hq).moved ha, fun q hq => (h4 q hq).moved ha, fun q hq => (h5 q hq).moved ha, fun q hq => (h6 q hq).moved ha, fun q hq => (h7 q hq).same hv, fun q hq => (h8 q hq).moved ha, h9, h10.moved ha, h11, h12⟩
theorem KC.kept (h : KC X ad A U H) (hz : H.size ≤ H1.size) (hq : ∀ a : Nat, a < H.size → ¬ A a → H1[a]? = H[a]?) : KC X ad A U H1 := by
  obtain ⟨h1, h2, h3, h4, h5, h6, h7, h8, h9, h10, h11, h12⟩ := h
  exact ⟨h1, h2, fun q w => (h3 q w).kept hq, fun q w => (h4 q w).kept hq, fun q w => (h5 q w).kept hq, fun q w => (h6 q w).kept hq, h7, fun q w => (h8 q w).kept hq, h9, h10.kept (hq _ h11 h12), Nat.lt_of_lt_of_le h11 hz, h12⟩
theorem KC.narrow (h : KC X ad A U H) (hAB : ∀ q, B q → A q) : KC X ad B U H := by
  obtain ⟨h1, h2, h3, h4, h5, h6, h7, h8, h9, h10, h11, h12⟩ := h
  exact ⟨h1, h2, fun q w => (h3 q w).narrow hAB, fun q w => (h4 q w).narrow hAB, fun q w => (h5 q w).narrow hAB, fun q w => (h6 q w).narrow hAB, h7, fun q w => (h8 q w).narrow hAB, h9, h10, h11, fun z => h12 (hAB _ z)⟩
def big (v : Value) : Bool := match v with
  | .ref a => decide (1000000 ≤ a)
  | _ => true
theorem cv_big (he : ∀ a, 1000000 ≤ a → ad' a = ad a) {v : Value} (hv : big v = true) : cv ad' v = cv ad v := by
  cases v with
  | ref a => show Value.ref (ad' a) = Value.ref (ad a); rw [he a (by simpa [big] using hv)]
  | _ => rfl
theorem kO_big : kO.all (fun q => decide (1000000 ≤ q.2)) = true := by decide +kernel
theorem kF_big : kF.all (fun q => big q.2.2.2.1 && decide (1000000 ≤ q.2.2.2.2)) = true := by decide +kernel
theorem kZ_big : kZ.all (fun q => big q.2.2.2) = true := by decide +kernel
theorem kT_big : kT.all (fun q => decide (1000000 ≤ q.2.1) && q.2.2.all big) = true := by decide +kernel
theorem kR_big : kR.all (fun q => decide (1000000 ≤ q.2.2.2)) = true := by decide +kernel
theorem getD_big {l : List Value} (h : l.all big = true) (j : Nat) : big (l.getD j .null) = true := by
  rw [List.getD_eq_getElem?_getD]
  cases e : l[j]? with
  | none => rfl
  | some v => exact List.all_eq_true.mp h v (List.mem_of_getElem? e)
theorem KC.ext (h : KC X ad A U H) (he : ∀ a, 1000000 ≤ a → ad' a = ad a) : KC X ad' A U H := by
  obtain ⟨h1, h2, h3, h4, h5, h6, h7, h8, h9, h10, h11, h12⟩ := h
  refine ⟨h1, h2, fun q w => ?_, fun q w => ?_, fun q w => ?_, fun q w => ?_, fun q w => ?_, h8, fun i j hi hj => ?_, ?_, ?_, ?_⟩
  · rw [he _ (by simpa using List.all_eq_true.mp kO_big q w)]; exact h3 q w
  · have := List.all_eq_true.mp kF_big q w
    simp only [Bool.and_eq_true, decide_eq_true_eq] at this
    rw [he _ this.2, cv_big he this.1]; exact h4 q w
  · rw [cv_big he (List.all_eq_true.mp kZ_big q w)]; exact h5 q w
  · have := List.all_eq_true.mp kT_big q w
    simp only [Bool.and_eq_true, decide_eq_true_eq] at this
    rw [he _ this.1, show (fun j => cv ad' (q.2.2.getD j .null)) = (fun j => cv ad (q.2.2.getD j .null)) from funext (fun j => cv_big he (getD_big this.2 j))]; exact h6 q w
  · rw [he _ (by simpa using List.all_eq_true.mp kR_big q w)]; exact h7 q w
  · rw [he _ (by omega), he _ (by omega)]; exact h9 i j hi hj
  · rw [he _ (by omega)]; exact h10
  · rw [he _ (by omega)]; exact h11
  · rw [he _ (by omega)]; exact h12
end KCL
