/-! THE WORDS AND SHAPES that the program's facts are said in (ahead of the core: these facts need no heap) -/
def isN (w : Cond) : Bool := match w with
  | .fieldLinkNest .. => true
  | .methodLinkNest .. => true
  | .declares _ => true
  | .castable .. => true
  | _ => false
/-- the words on nest mates, and two kinds more: they are kept, but not by the tables alone -/
def Tn : List Cond := tables_1.filter isN
/-- which kind a cell is (vwCl's classes 0 .. 10, 11 bytes, 12 ints, 13 longs, 14 rows of ints), by the order of making -/
def kdT : List Nat := [9, 1, 11, 0, 13, 13, 6, 12, 12, 6, 12, 12, 7, 3, 12, 12, 4, 14, 2, 12, 5, 11, 8, 1, 11, 10, 12, 12, 12, 12, 12, 12, 12, 12, 12, 12, 12, 12, 12, 13]
def lnT : List Nat := [0, 0, 4000, 0, 200, 200, 0, 4096, 200, 0, 4096, 200, 0, 0, 12, 4, 0, 256, 0, 100, 0, 4000, 0, 0, 32, 0, 65536, 8, 100, 4000, 4020, 4096, 200, 4096, 200, 200, 200, 40, 4000, 1]
def kd (a : Nat) : Nat := kdT.getD a 12
def ln (a : Nat) : Nat := lnT.getD a 256
/-- the kinds of a class' fields: 0 an int, 1 a long, 2 a reference -/
def fkT : List (List Nat) := [[2, 2, 2, 2, 2, 2, 0, 0, 0, 0, 0, 0, 0], [2, 0], [2, 0, 0, 0, 0], [2, 2, 2, 2, 2, 0, 0], [2], [2, 0, 0], [2, 2, 0, 0, 0], [2, 0, 0, 0, 0, 2, 1, 1], [2], [2, 2, 2, 2], [0, 2, 2, 0, 0, 0, 0, 0, 0, 0, 2, 0, 2, 0, 0, 0, 0, 0, 0, 0, 2, 0, 2, 0, 0, 0, 2, 0, 0, 0, 2, 0, 0, 2, 2, 2, 0, 2, 0, 0, 0, 0, 0, 0, 0, 2, 0, 0, 0, 0, 0, 0]]
def fk (c k : Nat) : Nat := (fkT.getD c []).getD k 0
def nF (c : Nat) : Nat := (fkT.getD c []).length
/-- a method: its class, its code, its locals, what it returns, its name -/
abbrev MR : Type := String × ByteArray × Nat × Option FieldType × MethodName
def Tg : List Cond := lw_tbl.filter goodWord
def CL (ci : Nat) (C : String) (T : u_T) (N : Nat) : Prop := vwCl[ci]? = some (C, T, N) ∧ nF ci = N ∧ ci < 11 ∧ (∃ ty0 : Nat → FieldType, (∀ k, k < N → parseFieldDescriptor (T k).2.2.1 = some (ty0 k)) ∧ ∀ k, k < N → defaultValue (ty0 k) = (if fk ci k = 0 then .int 0 else if fk ci k = 1 then .long 0 else .null)) ∧ (∀ a, a < N → ∀ b, b < N → a ≠ b → (T a).2.1 ≠ (T b).2.1) ∧ (∀ w ∈ u_ws C T N, w ∈ Tg)
def LK (own : String) (idx : Nat) (T : u_T) (k : Nat) : Prop := Jvm.Cond.fieldLink own idx (T k).1 (T k).2.1 (T k).2.2.1 ∈ Tg ∨ ∃ host, Jvm.Cond.fieldLinkNest own idx (T k).1 (T k).2.1 (T k).2.2.1 host ∈ Tn
/-- entry idx of the class own is the field k of the class ci, of the type ty; f: it is final -/
def FL (own : String) (idx ci k : Nat) (ty : FieldType) (f : Bool) : Prop := ∃ (C : String) (T : u_T) (N : Nat), CL ci C T N ∧ k < N ∧ parseFieldDescriptor (T k).2.2.1 = some ty ∧ (T k).2.2.2 = f ∧ LK own idx T k
/-- a method's own facts: n how many it takes (without its object) -/
def Mok (M : MR) (n : Nat) : Prop := M.2.2.2.2.cls = M.1 ∧ plainName M.1 = true ∧ (M.1 ≠ "java/lang/invoke/MethodHandle" ∧ M.1 ≠ "java/lang/invoke/VarHandle" ∧ (parseMethodDescriptor M.2.2.2.2.desc).map (fun d => d.parameters.length) = some n) ∧ Jvm.Cond.code M.2.2.2.2 M.2.1 M.2.2.1 M.2.2.2.1 ∈ Tg ∧ Jvm.Cond.initialized M.1 ∈ Tg
def LM (own : String) (idx : Nat) (y : MethodName) : Prop := Jvm.Cond.methodLink own idx y ∈ Tg ∨ ∃ host, Jvm.Cond.methodLinkNest own idx y host ∈ Tn
theorem tg {w : Cond} (i : Nat) (h : tables_1[i]? = some w) (g : goodWord w = true) : w ∈ Tg := List.mem_filter.mpr ⟨List.mem_append_right _ (List.mem_of_getElem? h), g⟩
theorem tgS {w : Cond} (i : Nat) (h : (k2_sels lw_privs)[i]? = some w) (g : goodWord w = true) : w ∈ Tg := List.mem_filter.mpr ⟨List.mem_append_left _ (List.mem_of_getElem? h), g⟩
theorem tgN {w : Cond} (i : Nat) (h : tables_1[i]? = some w) (g : isN w = true) : w ∈ Tn := List.mem_filter.mpr ⟨List.mem_of_getElem? h, g⟩
theorem tgL {ws : List Cond} (ps : List Nat) (hp : ws = ps.filterMap (fun i => tables_1[i]?)) (hg : ws.all goodWord = true) : ∀ w ∈ ws, w ∈ Tg := by
  intro w hw
  have h1 := List.all_eq_true.mp hg w hw
  rw [hp] at hw
  obtain ⟨i, -, hi⟩ := List.mem_filterMap.mp hw
  exact tg i hi h1
/-- a site of invokevirtual: the method M2 of the class ci, which takes n -/
def SV (own : String) (idx : Nat) (M2 : MR) (n ci : Nat) : Prop := Mok M2 n ∧ LM own idx M2.2.2.2.2 ∧ Jvm.Cond.instanceMethod M2.2.2.2.2 ∈ Tg ∧ Jvm.Cond.selects M2.1 M2.2.2.2.2 M2.2.2.2.2 ∈ Tg ∧ (∃ T N, vwCl[ci]? = some (M2.1, T, N)) ∧ ci < 11
def SS (own : String) (idx : Nat) (M2 : MR) (n : Nat) : Prop := Mok M2 n ∧ LM own idx M2.2.2.2.2 ∧ Jvm.Cond.static M2.2.2.2.2 ∈ Tg
def SX (own : String) (idx : Nat) (M2 : MR) (n : Nat) : Prop := Mok M2 n ∧ LM own idx M2.2.2.2.2 ∧ Jvm.Cond.instanceMethod M2.2.2.2.2 ∈ Tg ∧ M2.2.2.2.2.name = "<init>" ∧ M2.2.2.2.1 = none
