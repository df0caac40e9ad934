/-! all orders of a set -/
def AG (ro : Nat → Nat) (l : List Nat) : Prop := ∀ q, q < l.length → l.getD q 0 = ro q
theorem AG.nil (ro : Nat → Nat) : AG ro [] := fun q hq => absurd hq (Nat.not_lt_zero _)
theorem AG.snoc {ro : Nat → Nat} {l : List Nat} (h : AG ro l) (x : Nat) : AG (va_up ro l.length x) (l ++ [x]) := by
  intro q hq
  rw [List.length_append, List.length_singleton] at hq
  by_cases e : q = l.length
  · subst e; rw [va_up_self]; simp
  · rw [va_up_ne _ _ e, ← h q (by omega)]; simp only [List.getD_eq_getElem?_getD, List.getElem?_append_left (show q < l.length by omega)]
def setL (s : Nat) : List Nat := (List.range 6).filter (fun p => s.testBit p)
def lexS : Nat → Nat → List (List Nat)
  | 0, _ => [[]]
  | f + 1, s => if s = 0 then [[]] else (List.range 6).flatMap (fun p => if s.testBit p = true then (lexS f (s - 2 ^ p)).map (fun l => p :: l) else [])
def isK (l : List Nat) (k : Nat) : Bool := decide (k + 1 < l.length) && (decide (l.getD k 0 ≤ l.getD (k + 1) 0) && (List.range 6).all (fun i => !(decide (k < i) && decide (i + 1 < l.length)) || decide (l.getD (i + 1) 0 < l.getD i 0)))
def isJ (l : List Nat) (k j : Nat) : Bool := decide (j < l.length) && (!decide (l.getD j 0 < l.getD k 0) && (List.range 6).all (fun i => !(decide (j < i) && decide (i < l.length)) || decide (l.getD i 0 < l.getD k 0)))
def swl (f : Nat → Nat) (k j i : Nat) : Nat := if i = k then f j else if i = j then f k else f i
def rsl (f : Nat → Nat) (m k j q : Nat) : Nat := if q < k then f q else if q = k then f j else swl f k j (k + m - q)
def chk (l l' : List Nat) : Bool := decide (l'.length = l.length) && (List.range 6).any (fun k => isK l k && (List.range 6).any (fun j => isJ l k j && (List.range 6).all (fun q => !decide (q < l.length) || decide (l'.getD q 0 = rsl (fun i => l.getD i 0) l.length k j q))))
def lstL (l : List Nat) : Bool := (List.range 6).all (fun i => !decide (i + 1 < l.length) || decide (l.getD (i + 1) 0 < l.getD i 0))
def chain : List (List Nat) → Bool
  | [] => false
  | [l] => lstL l
  | l :: l' :: r => chk l l' && chain (l' :: r)
set_option maxRecDepth 100000 in
theorem chain_all : ∀ s, s < 64 → (chain (lexS 6 s) && (decide ((lexS 6 s).head? = some (setL s)) && decide ((setL s).length = wBits s))) = true := by decide +kernel
