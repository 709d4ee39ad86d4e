/-! THE ASSEMBLER, as both sides do it -/
def sameW (T : List Int32) (s t : Nat) : Bool := decide (rl T s (wd1 T s - s) = rl T t (wd1 T t - t))
def fI (T : List Int32) (L : Nat → Nat) (s : Nat) : Nat → Nat → Option Nat
  | 0, _ => none
  | m + 1, i => if sameW T (L i) s then some i else fI T L s m (i + 1)
abbrev RS : Type := Int32 ⊕ Int32
def nuS (T : List Int32) (s : Nat) (lo hi mk w : Int32) : RS := if uC T s = 2 then (if uV T s < lo then .inl 2 else if hi < uV T s then .inl 2 else .inr (w ||| (uV T s &&& mk))) else .inl 1
def reS (T : List Int32) (s : Nat) (sh w : Int32) : RS := if uC T s = 3 then .inr (w ||| (uV T s <<< (sh &&& 31))) else .inl 1
/-- what is known of the LABELS: the pass, their starts and places, how many -/
abbrev LbS : Type := Bool × (Nat → Nat) × (Nat → Nat) × Nat
def plS (T : List Int32) (Λ : LbS) (s : Nat) : Option Nat := if Λ.1 then (fI T Λ.2.1 s Λ.2.2.2 0).map Λ.2.2.1 else some 0
def whS (T : List Int32) (Λ : LbS) (here s : Nat) (hf mk w : Int32) : RS := if uC T s = 4 then (match plS T Λ s with
    | none => .inl 5
    | some p => if Λ.1 = true ∧ (nI p - (nI here + 1) < -hf ∨ hf ≤ nI p - (nI here + 1)) then .inl 6 else .inr (w ||| ((nI p - (nI here + 1)) &&& mk)))
  else nuS T s (-hf) (hf - 1) mk w
def vaS (T : List Int32) (Λ : LbS) (s : Nat) (w : Int32) : RS := if uC T s = 4 then (match plS T Λ s with
    | none => .inl 5
    | some p => .inr (nI p &&& 65535))
  else nuS T s (-32768) 65535 65535 w
def seS (T : List Int32) (s : Nat) (w : Int32) : RS := if uC T s = 3 then reS T s 0 w else (match nuS T s (-16) 15 31 w with
  | .inl e => .inl e
  | .inr v => .inr (v ||| 32))
def opS (T : List Int32) (Λ : LbS) (here : Nat) (f : Int32) (s : Nat) (w : Int32) : RS :=
  if f = 65 then reS T s 6 w else if f = 68 then reS T s 9 w else if f = 70 then vaS T Λ s w else if f = 74 then whS T Λ here s 1024 2047 w else if f = 79 then nuS T s (-32) 31 63 w else if f = 83 then seS T s w else if f = 86 then nuS T s 0 255 255 w else whS T Λ here s 256 511 w
/-- a FAULT: its number and where -/
abbrev FA : Type := Int32 × Nat
def shS (T : List Int32) (Λ : LbS) (here : Nat) : List Int32 → Nat → Int32 → FA ⊕ (Nat × Int32)
  | [], p, w => .inr (p, w)
  | f :: fs, p, w => match opS T Λ here f (nx T p) w with
    | .inl e => .inl (e, nx T p)
    | .inr v => shS T Λ here fs (uE T (nx T p)) v
def roS (o n m : Nat) : Bool := decide (n + m ≤ 4096) && decide (o + n + m ≤ 65536)
/-- where we are: the place in the text, begun, over, the origin, what was made, the LABELS' starts and places -/
abbrev AS : Type := Nat × Bool × Bool × Nat × List Int32 × List (Nat × Nat)
def laS (sec : Bool) (l : List (Nat × Nat)) : LbS := (sec, fun i => (l.getD i (0, 0)).1, fun i => (l.getD i (0, 0)).2, l.length)
/-- a statement, of the NAME i that begins at s -/
def smS (T : List Int32) (sec : Bool) (i s : Nat) (a : AS) : FA ⊕ AS :=
  if i = 0 then (if uC T (nx T (uE T s)) = 2 then (if uV T (nx T (uE T s)) < 0 then .inl (2, nx T (uE T s)) else if 65535 < uV T (nx T (uE T s)) then .inl (2, nx T (uE T s)) else .inr (uE T (nx T (uE T s)), true, false, (uV T (nx T (uE T s))).toNatClampNeg, a.2.2.2.2.1, a.2.2.2.2.2)) else .inl (1, nx T (uE T s)))
  else if i = 1 then (if uC T (nx T (uE T s)) = 2 then (if uV T (nx T (uE T s)) < 1 then .inl (2, nx T (uE T s)) else if 4096 < uV T (nx T (uE T s)) then .inl (2, nx T (uE T s)) else if roS a.2.2.2.1 a.2.2.2.2.1.length (uV T (nx T (uE T s))).toNatClampNeg then .inr (uE T (nx T (uE T s)), true, false, a.2.2.2.1, a.2.2.2.2.1 ++ List.replicate (uV T (nx T (uE T s))).toNatClampNeg 0, a.2.2.2.2.2) else .inl (4, s)) else .inl (1, nx T (uE T s)))
  else if i = 2 then (if uC T (nx T (uE T s)) = 5 then (if roS a.2.2.2.1 a.2.2.2.2.1.length ((uX T (nx T (uE T s))).length + 1) then .inr (uE T (nx T (uE T s)), true, false, a.2.2.2.1, a.2.2.2.2.1 ++ (uX T (nx T (uE T s))).map (fun b => b &&& 65535) ++ [0], a.2.2.2.2.2) else .inl (4, s)) else .inl (1, nx T (uE T s)))
  else if i = 3 then .inr (uE T s, true, true, a.2.2.2)
  else if roS a.2.2.2.1 a.2.2.2.2.1.length 1 then (match shS T (laS sec a.2.2.2.2.2) (a.2.2.2.1 + a.2.2.2.2.1.length) (sB (opSh.getD i 0)) (uE T s) (opBase.getD i 0) with
    | .inl e => .inl e
    | .inr r => .inr (r.1, true, false, a.2.2.2.1, a.2.2.2.2.1 ++ [r.2 &&& 65535], a.2.2.2.2.2))
  else .inl (4, s)
def enS (T : List Int32) (a : AS) : FA ⊕ AS := if uC T (nx T a.1) = 0 then .inr (nx T a.1, a.2) else .inl (1, nx T a.1)
/-- a statement at s, if one may stand there, and the LINE's end -/
def bdS (T : List Int32) (sec : Bool) (s : Nat) (a : AS) : FA ⊕ AS :=
  if uC T s = 0 then .inr (s, a.2)
  else if uC T s = 1 ∧ (a.2.1 = true ↔ ¬ uO T s = some 0) then (match smS T sec ((uO T s).getD 0) s a with
    | .inl e => .inl e
    | .inr b => enS T b)
  else .inl (1, s)
/-- a LABEL at s -/
def teS (T : List Int32) (sec : Bool) (s : Nat) (a : AS) : FA ⊕ AS :=
  if sec then .inr (uE T s, a.2)
  else if (fI T (laS sec a.2.2.2.2.2).2.1 s a.2.2.2.2.2.length 0).isSome then .inl (3, s)
  else if 200 ≤ a.2.2.2.2.2.length then .inl (4, s)
  else .inr (uE T s, a.2.1, a.2.2.1, a.2.2.2.1, a.2.2.2.2.1, a.2.2.2.2.2 ++ [(s, a.2.2.2.1 + a.2.2.2.2.1.length)])
def lnS (T : List Int32) (sec : Bool) (a : AS) : FA ⊕ AS :=
  if a.2.1 = true ∧ uC T (nx T a.1) = 4 then (match teS T sec (nx T a.1) a with
    | .inl e => .inl e
    | .inr b => bdS T sec (nx T b.1) b)
  else bdS T sec (nx T a.1) a
def psL (T : List Int32) (sec : Bool) : Nat → AS → FA ⊕ AS
  | 0, a => .inr a
  | m + 1, a => if a.1 < T.length then (match lnS T sec a with
      | .inl e => .inl e
      | .inr b => if b.2.2.1 = true then .inr b else psL T sec m (b.1 + 1, b.2))
    else .inr a
def psS (T : List Int32) (sec : Bool) (l : List (Nat × Nat)) : FA ⊕ AS := match psL T sec (T.length + 1) (0, false, false, 0, [], l) with
  | .inl e => .inl e
  | .inr b => if b.2.1 = true then .inr b else .inl (1, T.length)
/-- what both keep: assembled, fault, its place, the words, the LABELS' places, the origin -/
abbrev KE : Type := Int32 × Int32 × Int32 × List Int32 × List Nat × Nat
def asS (T : List Int32) (κ : KE) : KE := match psS T false [] with
  | .inl e => (κ.1, e.1, nI e.2, κ.2.2.2)
  | .inr a => match psS T true a.2.2.2.2.2 with
    | .inl e => (κ.1, e.1, nI e.2, κ.2.2.2)
    | .inr b => (1, 0, -1, b.2.2.2.2.1, b.2.2.2.2.2.map Prod.snd, b.2.2.2.1)
