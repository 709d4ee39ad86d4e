/-! WHAT LIES IN THE HEAP FOR GOOD: the constants, under numbers from 1,000,000 on (to be filled; the laws below are all that the core asks). -/
def KC (ad : Nat → Nat) (A : Nat → Prop) (U : State) (H : Heap) : Prop := True
theorem KC.warm {ad : Nat → Nat} {A : Nat → Prop} {s U : State} {H : Heap} (hW : s.WarmedH U.vm) (h : KC ad A s H) : KC ad A U H := trivial
theorem KC.same {ad : Nat → Nat} {A : Nat → Prop} {s U : State} {H : Heap} (hv : U.vm = s.vm) (h : KC ad A s H) : KC ad A U H := trivial
theorem KC.kept {ad : Nat → Nat} {A : Nat → Prop} {U : State} {H H1 : Heap} (h : KC ad A U H) (hq : ∀ a : Nat, a < H.size → ¬ A a → H1[a]? = H[a]?) : KC ad A U H1 := trivial
theorem KC.narrow {ad : Nat → Nat} {A B : Nat → Prop} {U : State} {H : Heap} (h : KC ad A U H) (hAB : ∀ q, B q → A q) : KC ad B U H := trivial
theorem KC.ext {ad ad' : Nat → Nat} {A : Nat → Prop} {U : State} {H : Heap} (h : KC ad A U H) (he : ∀ a, 1000000 ≤ a → ad' a = ad a) : KC ad' A U H := trivial
