/-! what both sides compute: a row f of 51 numbers (minute, people, score, bells, people's five) -/
def inR (x : Int32) (lo hi : Int) : Prop := lo ≤ x.toInt ∧ x.toInt ≤ hi
theorem inR_nat {x : Int32} {hi : Int} (h : inR x 0 hi) : ∃ j : Nat, x = nI j ∧ (j : Int) ≤ hi ∧ j < 2147483648 := by
  obtain ⟨h1, h2⟩ := h
  obtain ⟨j, hj, rfl⟩ := nI_of (x := x) (fun q => by
    have := Int32.lt_iff_toInt_lt.mp q
    have e : (0 : Int32).toInt = 0 := rfl
    omega)
  rw [nI_toInt hj] at h2
  exact ⟨j, rfl, h2, hj⟩
theorem inR_n {j : Nat} {lo hi : Int} (hj : j < 2147483648) : inR (nI j) lo hi ↔ lo ≤ (j : Int) ∧ (j : Int) ≤ hi := by
  unfold inR
  rw [nI_toInt hj]
theorem i2l_toInt (x : Int32) : x.toInt64.toInt = x.toInt := Int32.toInt_toInt64 x
def its (f : Nat → Nat) (p w : Nat) : Nat := f (11 + 5 * p + w)
def sc (f : Nat → Nat) (q : Nat) : Nat := f (2 + q)
def be (f : Nat → Nat) (b : Nat) : Nat := f (8 + b)
def qtr (f : Nat → Nat) : Nat := f 0 / 8 % 6
def ringN (f : Nat → Nat) : Nat → Int32
  | 0 => -1
  | n + 1 => if f 0 % 48 = be f n then nI n else ringN f n
def ring (f : Nat → Nat) : Int32 := ringN f 3
def sumN (f : Nat → Nat) (w : Nat) : Nat → Nat
  | 0 => 0
  | n + 1 => sumN f w n + its f n w
def hearK (k pl : Nat) (rg : Int32) : Bool := if k = 2 then true else if k = 3 then false else if k = 4 then false else if k = 5 then decide (pl < 10) && decide (rg ≠ 2) else decide (pl < 10)
def hears (f : Nat → Nat) (p : Nat) : Bool := decide (ring f ≠ -1) && hearK (its f p 0) (its f p 3) (ring f)
def singW (f : Nat → Nat) : Nat := if qtr f % 2 = 1 then 11 else sc f (qtr f)
def writ (f : Nat → Nat) (p : Nat) : Nat := if its f p 0 = 1 then 11 - sc f (qtr f) else if its f p 0 = 2 then singW f else if its f p 0 = 3 then (its f p 1 + 1) % 12 else if its f p 0 = 4 then (if f 0 % 8 = 7 then 5 else singW f) else if its f p 0 = 5 then 11 - sc f (qtr f) - 1 else sc f (qtr f)
def due (f : Nat → Nat) (p : Nat) : Nat := if hears f p = true then 0 else writ f p
def setN (c : Nat → Bool) : Nat → Nat
  | 0 => 0
  | n + 1 => if c n = true then setN c n ||| 2 ^ n else setN c n
def whoAt (f : Nat → Nat) (c : Nat) : Nat := setN (fun p => decide (its f p 1 = c)) (f 1)
def dueOnes (f : Nat → Nat) : Nat := setN (fun p => decide (its f p 1 = due f p)) (f 1)
def nxt (f : Nat → Nat) (p : Nat) : Nat := if its f p 1 < due f p then its f p 1 + 1 else if due f p < its f p 1 then its f p 1 - 1 else its f p 1
def bar (f : Nat → Nat) (p : Nat) : Bool := decide (its f p 1 ≠ due f p) && decide (whoAt f (nxt f p) ≠ 0)
def walk (f : Nat → Nat) (p : Nat) : Nat := if its f p 0 = 1 ∨ its f p 0 = 5 then (if bar f p = true then 0 else its f p 2) else if its f p 0 = 2 then 1 else if its f p 0 = 3 then 2 * its f p 2 else if its f p 0 = 4 then 1 + its f p 2 else its f p 2
def spoilK (k : Nat) : Nat := if k = 1 then 2 else if k = 2 then 0 else if k = 3 then 5 else if k = 4 then 3 else if k = 5 then 4 else 1
def newAt (f : Nat → Nat) (p : Nat) : Nat := if its f p 1 < due f p then its f p 1 + min (walk f p) (due f p - its f p 1) else its f p 1 - min (walk f p) (its f p 1 - due f p)
def walk1 (f : Nat → Nat) (p : Nat) : Nat → Nat := va_up f (11 + 5 * p + 1) (newAt f p)
def walkN (f : Nat → Nat) : Nat → Nat → Nat
  | 0 => f
  | n + 1 => walk1 (walkN f n) n
def dueN (f d : Nat → Nat) : Nat → Nat → Nat
  | 0 => d
  | n + 1 => va_up (dueN f d n) n (due (walkN f n) n)
def mark1 (f d : Nat → Nat) (p : Nat) : Nat → Nat := if its f p 1 = d p then va_up f (11 + 5 * p + 3) (min 9999 (its f p 3 + 1)) else va_up f (11 + 5 * p + 4) (min 9999 (its f p 4 + spoilK (its f p 0)))
def markN (f d : Nat → Nat) : Nat → Nat → Nat
  | 0 => f
  | n + 1 => mark1 (markN f d n) d n
def timeN (f d : Nat → Nat) : Nat := setN (fun p => decide (its f p 1 = d p)) (f 1)
def minF (f : Nat → Nat) : Nat → Nat := va_up (markN (walkN f (f 1)) (dueN f (fun _ => 0) (f 1)) (f 1)) 0 (f 0 + 1)
def timeF (f : Nat → Nat) : Nat := timeN (walkN f (f 1)) (dueN f (fun _ => 0) (f 1))
def goF (f : Nat → Nat) : Nat → Nat → Nat
  | 0 => f
  | n + 1 => minF (goF f n)
/-- what holds of every row -/
def Inv (f : Nat → Nat) : Prop := f 0 ≤ 200000 ∧ f 1 ≤ 8 ∧ (∀ q, q < 6 → sc f q ≤ 11) ∧ (∀ b, b < 3 → be f b ≤ 47) ∧ ∀ p, p < 8 → its f p 0 ≤ 5 ∧ its f p 1 ≤ 11 ∧ its f p 2 ≤ 4 ∧ its f p 3 ≤ 9999 ∧ its f p 4 ≤ 9999
theorem Inv.its_le {f : Nat → Nat} (h : Inv f) {p w : Nat} (hp : p < 8) (hw : w < 5) : its f p w ≤ 9999 := by
  obtain ⟨h0, h1, h2, h3, h4⟩ := h.2.2.2.2 p hp
  rcases (show w = 0 ∨ w = 1 ∨ w = 2 ∨ w = 3 ∨ w = 4 by omega) with rfl | rfl | rfl | rfl | rfl <;> omega
theorem qtr_lt (f : Nat → Nat) : qtr f < 6 := Nat.mod_lt _ (by decide)
theorem va_up_s {α : Type} (f : Nat → α) (k : Nat) (v : α) : va_up f k v k = v := by unfold va_up; rw [if_pos rfl]
theorem va_up_n {α : Type} (f : Nat → α) {k j : Nat} (v : α) (h : j ≠ k) : va_up f k v j = f j := by unfold va_up; rw [if_neg h]
theorem cmpL {x y : Int64} : (x < y ↔ x.toInt < y.toInt) ∧ (x ≤ y ↔ x.toInt ≤ y.toInt) := ⟨Int64.lt_iff_toInt_lt, Int64.le_iff_toInt_le⟩
