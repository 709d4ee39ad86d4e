/-! TOKENS: what both sides read, as functions of the TAPE -/
def bT (T : List Int32) (i : Nat) : Int32 := (T[i]?).getD (-1)
def skB (T : List Int32) : Nat → Nat → Nat
  | 0, p => p
  | m + 1, p => if bT T p = 9 then skB T m (p + 1) else if bT T p = 13 then skB T m (p + 1) else if bT T p = 32 then skB T m (p + 1) else if bT T p = 44 then skB T m (p + 1) else p
def skC (T : List Int32) : Nat → Nat → Nat
  | 0, p => p
  | m + 1, p => if bT T p = 10 then p else skC T m (p + 1)
def sk1 (T : List Int32) (p : Nat) : Nat := skB T (T.length - p) p
/-- where the next token begins -/
def nx (T : List Int32) (p : Nat) : Nat := if bT T (sk1 T p) = 59 then skC T (T.length - sk1 T p) (sk1 T p) else sk1 T p
def sg4 (b : Int32) : Int32 := if b = 35 then 39 else if b = 45 then 40 else if b = 46 then 38 else if b = 95 then 37 else 0
def sg3 (b : Int32) : Int32 := if b < 48 then sg4 b else if 57 < b then sg4 b else b - 48 + 27
def sg2 (b : Int32) : Int32 := if b < 97 then sg3 b else if 122 < b then sg3 b else b - 97 + 1
def sgI (b : Int32) : Int32 := if b < 65 then sg2 b else if 90 < b then sg2 b else b - 65 + 1
def dg3 (b : Int32) : Int32 := if b < 97 then 16 else if 102 < b then 16 else b - 97 + 10
def dg2 (b : Int32) : Int32 := if b < 65 then dg3 b else if 70 < b then dg3 b else b - 65 + 10
def dgI (b : Int32) : Int32 := if b < 48 then dg2 b else if 57 < b then dg2 b else b - 48
def mnI (b : Int32) : Int32 := if b = 34 then b else if b = 48 then 0 else if b = 92 then b else if b = 110 then 10 else if b = 116 then 9 else -1
def wE (T : List Int32) : Nat → Nat → Nat
  | 0, p => p
  | m + 1, p => if sgI (bT T p) = 0 then p else wE T m (p + 1)
def wd1 (T : List Int32) (s : Nat) : Nat := wE T (T.length - s) s
def txS (T : List Int32) : Nat → Nat → List Int32 → Option (Nat × List Int32)
  | 0, _, _ => none
  | m + 1, q, l => if bT T q = 34 then some (q + 1, l) else if bT T q = 92 then (if mnI (bT T (q + 1)) = -1 then none else txS T m (q + 2) (l ++ [mnI (bT T (q + 1))])) else if bT T q < 32 then none else if 126 < bT T q then none else txS T m (q + 1) (l ++ [bT T q])
def dgS (T : List Int32) (bs : Int32) : Nat → Nat → Int32 → Option Int32
  | 0, _, a => some a
  | m + 1, i, a => if dgI (bT T i) < bs then dgS T bs m (i + 1) (a * bs + dgI (bT T i)) else none
def nbS (T : List Int32) (s : Nat) : Int32 := if bT T s = 88 then 16 else if bT T s = 120 then 16 else 10
def niS (T : List Int32) (s : Nat) : Nat := if nbS T s = 16 then s + 1 else if bT T s = 35 then s + 1 else s
def njS (T : List Int32) (s : Nat) : Nat := if bT T (niS T s) = 45 then niS T s + 1 else niS T s
def numS (T : List Int32) (s e : Nat) : Option Int32 := if e ≤ njS T s then none else if (if nbS T s = 16 then 5 else 6) < e - njS T s then none else match dgS T (nbS T s) (e - njS T s) (njS T s) 0 with
  | none => none
  | some v => some (if bT T (niS T s) = 45 then -v else v)
def rw1 (a : Int64 × Int64 × Int32) (n : Nat) (g : Int32) : Int64 × Int64 × Int32 := (if n < 10 then a.1 * 64 + g.toInt64 else a.1, if n < 10 then a.2.1 else a.2.1 * 64 + g.toInt64, if a.2.2 = 0 then 0 else if 37 < g then 0 else 1)
def rwL (T : List Int32) (s : Nat) : Nat → Int64 × Int64 × Int32
  | 0 => (0, 0, if 26 < sgI (bT T s) then 0 else 1)
  | m + 1 => rw1 (rwL T s m) m (sgI (bT T (s + m)))
def uH (T : List Int32) (s : Nat) : Int64 × Int64 × Int32 := rwL T s (wd1 T s - s)
def fO : Nat → Nat → Int64 → Option Nat
  | 0, _, _ => none
  | m + 1, i, h => if opSigns.getD i 0 = h then some i else fO m (i + 1) h
def uO (T : List Int32) (s : Nat) : Option Nat := if 10 < wd1 T s - s then none else fO 37 0 (uH T s).1
def uR (T : List Int32) (s : Nat) : Option Int32 := if wd1 T s - s = 2 then (if (uH T s).1 < 1179 then none else if 1186 < (uH T s).1 then none else some ((uH T s).1 - 1179).toInt32) else none
def uL (T : List Int32) (s : Nat) : Bool := !decide ((uH T s).2.2 = 0) && decide (wd1 T s - s ≤ 20)
/-- what a word is: 1 a NAME, 2 a NUMBER, 3 a REGISTER, 4 a LABEL, 6 none of them -/
def wk (T : List Int32) (s : Nat) : Nat := if (uO T s).isSome then 1 else if (numS T s (wd1 T s)).isSome then 2 else if (uR T s).isSome then 3 else if uL T s then 4 else 6
def uC (T : List Int32) (s : Nat) : Nat := if bT T s = -1 then 0 else if bT T s = 10 then 0 else if bT T s = 34 then (if (txS T (T.length - s) (s + 1) []).isSome then 5 else 6) else if sgI (bT T s) = 0 then 6 else wk T s
/-- where a token ends -/
def uE (T : List Int32) (s : Nat) : Nat := if bT T s = -1 then s else if bT T s = 10 then s else if bT T s = 34 then (match txS T (T.length - s) (s + 1) [] with | some r => r.1 | none => s) else if sgI (bT T s) = 0 then s else wd1 T s
def uX (T : List Int32) (s : Nat) : List Int32 := match txS T (T.length - s) (s + 1) [] with | some r => r.2 | none => []
def uV (T : List Int32) (s : Nat) : Int32 := if uC T s = 5 then nI (uX T s).length else if uC T s = 2 then (numS T s (wd1 T s)).getD 0 else (uR T s).getD 0
