/-! what the document's machine does, as a function. b: the bytes, z: how many; .inl: refused, by the exception's number -/
def sFit (v : Int) (t : Nat) : Nat ⊕ (Int × Nat) := if v < -2147483648 ∨ 2147483647 < v then .inl 2 else .inr (v, t)
def sNum (b : Nat → Int) (z : Nat) (sg : Bool) : Nat → Nat → Int → Nat ⊕ (Int × Nat)
  | 0, _, _ => .inl 2
  | k + 1, t, a => if z ≤ t then .inl 1 else if b t < 128 then sFit (if sg = true ∧ 64 ≤ b t then a + b t * p7 (4 - k) - 128 * p7 (4 - k) else a + b t * p7 (4 - k)) (t + 1) else sNum b z sg k (t + 1) (a + (b t - 128) * p7 (4 - k))
/-- address, file, line, column, statement, block, least address, place, rows, their numbers, whether at an END -/
abbrev MS := Int × Int × Int × Int × Int × Int × Int × Nat × Nat × (Nat → Int32) × Bool
def sRow7 (R : Nat → Int32) (n : Nat) (a f l c s k e : Int) : Nat → Int32 :=
  upd (upd (upd (upd (upd (upd (upd R (7 * n) (iI a)) (7 * n + 1) (iI f)) (7 * n + 2) (iI l)) (7 * n + 3) (iI c)) (7 * n + 4) (iI s)) (7 * n + 5) (iI k)) (7 * n + 6) (iI e)
def sRow (e : Int) : MS → Nat ⊕ MS
  | (a, f, l, c, s, k, m, t, n, R, d) => if a < m then .inl 4 else if 90 ≤ n then .inl 5 else .inr (a, f, l, c, s, 0, a, t, n + 1, sRow7 R n a f l c s k e, d)
def sNew (start : Int) (t n : Nat) (R : Nat → Int32) : MS := (0, 1, 1, 0, start, 0, 0, t, n, R, true)
def sLine (v : Int) : MS → Nat ⊕ MS
  | (a, f, l, c, s, k, m, t, n, R, d) => if l + v < 0 ∨ 2147483647 < l + v then .inl 3 else .inr (a, f, l + v, c, s, k, m, t, n, R, d)
def sAddr (w : Int) : MS → Nat ⊕ MS
  | (_, f, l, c, s, k, m, t, n, R, d) => if 2147483647 < w then .inl 3 else .inr (w, f, l, c, s, k, m, t, n, R, d)
def sBind {α β : Type} : Nat ⊕ α → (α → Nat ⊕ β) → Nat ⊕ β
  | .inl c, _ => .inl c
  | .inr x, f => f x
def sAt (t : Nat) : MS → MS
  | (a, f, l, c, s, k, m, _, n, R, d) => (a, f, l, c, s, k, m, t, n, R, d)
def sFile (v : Int) : MS → MS
  | (a, _, l, c, s, k, m, t, n, R, d) => (a, v, l, c, s, k, m, t, n, R, d)
def sCol (v : Int) : MS → MS
  | (a, f, l, _, s, k, m, t, n, R, d) => (a, f, l, v, s, k, m, t, n, R, d)
def sTurn : MS → MS
  | (a, f, l, c, s, k, m, t, n, R, d) => (a, f, l, c, 1 - s, k, m, t, n, R, d)
def sBlock : MS → MS
  | (a, f, l, c, s, _, m, t, n, R, d) => (a, f, l, c, s, 1, m, t, n, R, d)
def sAnew (start : Int) : MS → MS
  | (_, _, _, _, _, _, _, t, n, R, _) => sNew start t n R
def sSpec (range low k : Int) (S : MS) : Nat ⊕ MS := sBind (sLine (low + k % range) S) (fun S => sBind (sAddr (S.1 + k / range) S) (sRow 0))
def sFix4 (b : Nat → Int) (t : Nat) : Int := b t + b (t + 1) * 256 + b (t + 2) * 65536 + b (t + 3) * 16777216
def sExt (b : Nat → Int) (z : Nat) (start : Int) (S : MS) (t : Nat) : Nat ⊕ MS :=
  sBind (sNum b z false 5 t 0) (fun q => if (z : Int) - q.2 < q.1 then .inl 1 else if q.1 = 0 then .inl 2 else
    if b q.2 = 0 then .inl 2 else
    if b q.2 = 1 then (if q.1 ≠ 1 then .inl 2 else sBind (sRow 1 (sAt (q.2 + 1) S)) (fun S => .inr (sAnew start S))) else
    if b q.2 = 2 then (if q.1 ≠ 5 then .inl 2 else sAddr (sFix4 b (q.2 + 1)) (sAt (q.2 + 5) S)) else .inr (sAt (q.2 + q.1.toNat) S))
/-- the instruction whose first byte is c, its other bytes from t on -/
def sIns (b : Nat → Int) (z : Nat) (base range low start : Int) (c : Int) (S : MS) (t : Nat) : Nat ⊕ MS :=
  if base ≤ c then sSpec range low (c - base) (sAt t S) else
  if c = 0 then sExt b z start S t else
  if c = 1 then sRow 0 (sAt t S) else
  if c = 2 then sBind (sNum b z false 5 t 0) (fun q => sAddr (S.1 + q.1) (sAt q.2 S)) else
  if c = 3 then sBind (sNum b z true 5 t 0) (fun q => sLine q.1 (sAt q.2 S)) else
  if c = 4 then sBind (sNum b z false 5 t 0) (fun q => .inr (sFile q.1 (sAt q.2 S))) else
  if c = 5 then sBind (sNum b z false 5 t 0) (fun q => .inr (sCol q.1 (sAt q.2 S))) else
  if c = 6 then .inr (sTurn (sAt t S)) else
  if c = 7 then .inr (sBlock (sAt t S)) else
  if c = 8 then sAddr (S.1 + (255 - base) / range) (sAt t S) else
  if c = 9 then (if z < t + 2 then .inl 1 else sAddr (S.1 + b t + b (t + 1) * 256) (sAt (t + 2) S)) else
  sBind (sNum b z false 5 t 0) (fun q => .inr (sAt q.2 S))
def sOpen : MS → MS
  | (a, f, l, c, s, k, m, t, n, R, _) => (a, f, l, c, s, k, m, t, n, R, false)
def sT (S : MS) : Nat := S.2.2.2.2.2.2.2.1
def sN (S : MS) : Nat := S.2.2.2.2.2.2.2.2.1
def sR (S : MS) : Nat → Int32 := S.2.2.2.2.2.2.2.2.2.1
def sE (S : MS) : Bool := S.2.2.2.2.2.2.2.2.2.2
def sLoop (b : Nat → Int) (z : Nat) (base range low start : Int) : Nat → MS → Nat ⊕ MS
  | 0, S => .inr S
  | j + 1, S => if z ≤ sT S then .inr S else sBind (sIns b z base range low start (b (sT S)) (sOpen S) (sT S + 1)) (sLoop b z base range low start j)
def sRun (b : Nat → Int) (z : Nat) (base range low start : Int) : Nat ⊕ (Nat × (Nat → Int32)) :=
  sBind (sLoop b z base range low start 600 (sNew start 0 0 (fun _ => 0))) (fun S => if sE S = true then .inr (sN S, sR S) else .inl 6)
/-! writing -/
def uL : Nat → Int → List Int
  | 0, v => [v]
  | k + 1, v => if 127 < v then (v % 128 + 128) :: uL k (v / 128) else [v]
def gL : Nat → Int → List Int
  | 0, v => [v % 128]
  | k + 1, v => if v < -64 ∨ 63 < v then (v % 128 + 128) :: gL k (v / 128) else [v % 128]
def wSpec (base range low step a l : Int) : List Int :=
  if base + l - low + range * a ≤ 255 then [base + l - low + range * a] else
  if step ≤ a ∧ base + l - low + range * (a - step) ≤ 255 then [8, base + l - low + range * (a - step)] else 2 :: (uL 5 a ++ [base + l - low])
def wMove (base range low step a l : Int) : List Int :=
  if l < low ∨ low + range ≤ l then 3 :: (gL 5 l ++ wSpec base range low step a 0) else wSpec base range low step a l
def wEnt (base range low step a f l c s a' f' l' c' s' : Int) : List Int :=
  (if f' ≠ f then 4 :: uL 5 f' else []) ++ ((if c' ≠ c then 5 :: uL 5 c' else []) ++ ((if s' ≠ s then [6] else []) ++ wMove base range low step (a' - a) (l' - l)))
/-- the entries from number i on, j of them; E: the table's numbers -/
def wAll (base range low step : Int) (E : Nat → Int) : Nat → Nat → Int → Int → Int → Int → Int → List Int
  | 0, _, _, _, _, _, _ => []
  | j + 1, i, a, f, l, c, s => wEnt base range low step a f l c s (E (5 * i)) (E (5 * i + 1)) (E (5 * i + 2)) (E (5 * i + 3)) (E (5 * i + 4)) ++ wAll base range low step E j (i + 1) (E (5 * i)) (E (5 * i + 1)) (E (5 * i + 2)) (E (5 * i + 3)) (E (5 * i + 4))
def wEnd (d : Int) : List Int := if d ≠ 0 then 2 :: (uL 5 d ++ [0, 1, 1]) else [0, 1, 1]
def wStart (a : Int) : List Int := [0, 5, 2, a % 256, a / 256 % 256, a / 65536 % 256, a / 16777216 % 256]
def wWrite (base range low step start : Int) (E : Nat → Int) (n : Nat) (e : Int) : List Int :=
  wStart (E 0) ++ (wAll base range low step E n 0 (E 0) 1 1 0 start ++ wEnd (e - E (5 * n - 5)))
