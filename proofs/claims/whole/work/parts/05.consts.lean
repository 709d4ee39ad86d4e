/-! WHAT LIES IN THE HEAP FOR GOOD, AND WORDS THAT GO ALONG WITH IT: the constants, under numbers from 1,000,000 on. -/
def isN (w : Cond) : Bool := match w with
  | .fieldLinkNest .. => true
  | .methodLinkNest .. => true
  | _ => false
/-- the words on nest mates: they are kept, but not by the tables alone -/
def Tn : List Cond := tables_1.filter isN
def NW (U : State) : Prop := ∀ w ∈ Tn, va_Nw w U
theorem isN_cases {P : Cond → Prop} (hf : ∀ a i b n d h, P (.fieldLinkNest a i b n d h)) (hm : ∀ a i x h, P (.methodLinkNest a i x h)) : ∀ w, isN w = true → P w := by
  intro w hw
  cases w <;> first | exact hf _ _ _ _ _ _ | exact hm _ _ _ _ | (exact absurd hw (by simp [isN]))
theorem NW.warm {s U : State} (hW : s.WarmedH U.vm) (h : NW s) : NW U := by
  intro w hw
  have h1 := h w hw
  revert h1
  exact isN_cases (P := fun w => va_Nw w s → va_Nw w U) (fun _ _ _ _ _ _ h1 => va_Nw.warmF hW h1) (fun _ _ _ _ h1 => va_Nw.warmM hW h1) w (List.mem_filter.mp hw).2
theorem NW.same {s U : State} (hv : U.vm = s.vm) (h : NW s) : NW U := by
  intro w hw
  have h1 := h w hw
  revert h1
  exact isN_cases (P := fun w => va_Nw w s → va_Nw w U) (fun _ _ _ _ _ _ h1 => va_Nw.same rfl hv.symm h1) (fun _ _ _ _ h1 => va_Nw.same rfl hv.symm h1) w (List.mem_filter.mp hw).2
theorem NW.use {s : State} {args : Array Value} (h : NW s) {w : Cond} (hw : w ∈ Tn) : w.before args s = true := by
  have h1 := h w hw
  revert h1
  exact isN_cases (P := fun w => va_Nw w s → w.before args s = true) (fun _ _ _ _ _ _ h1 => va_Nw.use rfl h1) (fun _ _ _ _ h1 => va_Nw.use rfl h1) w (List.mem_filter.mp hw).2
def KC (ad : Nat → Nat) (A : Nat → Prop) (U : State) (H : Heap) : Prop := NW U ∧ True
theorem KC.warm {ad : Nat → Nat} {A : Nat → Prop} {s U : State} {H : Heap} (hW : s.WarmedH U.vm) (h : KC ad A s H) : KC ad A U H := ⟨h.1.warm hW, trivial⟩
theorem KC.same {ad : Nat → Nat} {A : Nat → Prop} {s U : State} {H : Heap} (hv : U.vm = s.vm) (h : KC ad A s H) : KC ad A U H := ⟨h.1.same hv, trivial⟩
theorem KC.kept {ad : Nat → Nat} {A : Nat → Prop} {U : State} {H H1 : Heap} (h : KC ad A U H) (hq : ∀ a : Nat, a < H.size → ¬ A a → H1[a]? = H[a]?) : KC ad A U H1 := ⟨h.1, trivial⟩
theorem KC.narrow {ad : Nat → Nat} {A B : Nat → Prop} {U : State} {H : Heap} (h : KC ad A U H) (hAB : ∀ q, B q → A q) : KC ad B U H := ⟨h.1, trivial⟩
theorem KC.ext {ad ad' : Nat → Nat} {A : Nat → Prop} {U : State} {H : Heap} (h : KC ad A U H) (he : ∀ a, 1000000 ≤ a → ad' a = ad a) : KC ad' A U H := ⟨h.1, trivial⟩
