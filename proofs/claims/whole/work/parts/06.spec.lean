/-! what both sides compute: a row f of 51 numbers (minute, people, score, bells, people's five) -/
def inR (x : Int32) (lo hi : Int) : Prop := lo ≤ x.toInt ∧ x.toInt ≤ hi
theorem inR_nat {x : Int32} {hi : Int} (h : inR x 0 hi) : ∃ j : Nat, x = nI j ∧ (j : Int) ≤ hi ∧ j < 2147483648 := by
  obtain ⟨h1, h2⟩ := h
  obtain ⟨j, hj, rfl⟩ := nI_of (x := x) (fun q => by
    have := Int32.lt_iff_toInt_lt.mp q
    have e : (0 : Int32).toInt = 0 := rfl
    omega)
  rw [nI_toInt hj] at h2
  exact ⟨j, rfl, h2, hj⟩
theorem inR_n {j : Nat} {lo hi : Int} (hj : j < 2147483648) : inR (nI j) lo hi ↔ lo ≤ (j : Int) ∧ (j : Int) ≤ hi := by
  unfold inR
  rw [nI_toInt hj]
theorem i2l_toInt (x : Int32) : x.toInt64.toInt = x.toInt := Int32.toInt_toInt64 x
def its (f : Nat → Nat) (p w : Nat) : Nat := f (11 + 5 * p + w)
def sc (f : Nat → Nat) (q : Nat) : Nat := f (2 + q)
def be (f : Nat → Nat) (b : Nat) : Nat := f (8 + b)
def qtr (f : Nat → Nat) : Nat := f 0 / 8 % 6
def ringN (f : Nat → Nat) : Nat → Int32
  | 0 => -1
  | n + 1 => if f 0 % 48 = be f n then nI n else ringN f n
def ring (f : Nat → Nat) : Int32 := ringN f 3
def sumN (f : Nat → Nat) (w : Nat) : Nat → Nat
  | 0 => 0
  | n + 1 => sumN f w n + its f n w
def hearK (k pl : Nat) (rg : Int32) : Bool := if k = 2 then true else if k = 3 then false else if k = 4 then false else if k = 5 then decide (pl < 10) && decide (rg ≠ 2) else decide (pl < 10)
def hears (f : Nat → Nat) (p : Nat) : Bool := decide (ring f ≠ -1) && hearK (its f p 0) (its f p 3) (ring f)
def singW (f : Nat → Nat) : Nat := if qtr f % 2 = 1 then 11 else sc f (qtr f)
def writ (f : Nat → Nat) (p : Nat) : Nat := if its f p 0 = 1 then 11 - sc f (qtr f) else if its f p 0 = 2 then singW f else if its f p 0 = 3 then (its f p 1 + 1) % 12 else if its f p 0 = 4 then (if f 0 % 8 = 7 then 5 else singW f) else if its f p 0 = 5 then 11 - sc f (qtr f) - 1 else sc f (qtr f)
def due (f : Nat → Nat) (p : Nat) : Nat := if hears f p = true then 0 else writ f p
def setN (c : Nat → Bool) : Nat → Nat
  | 0 => 0
  | n + 1 => if c n = true then setN c n ||| 2 ^ n else setN c n
def whoAt (f : Nat → Nat) (c : Nat) : Nat := setN (fun p => decide (its f p 1 = c)) (f 1)
def dueOnes (f : Nat → Nat) : Nat := setN (fun p => decide (its f p 1 = due f p)) (f 1)
def nxt (f : Nat → Nat) (p : Nat) : Nat := if its f p 1 < due f p then its f p 1 + 1 else if due f p < its f p 1 then its f p 1 - 1 else its f p 1
def bar (f : Nat → Nat) (p : Nat) : Bool := decide (its f p 1 ≠ due f p) && decide (whoAt f (nxt f p) ≠ 0)
def walk (f : Nat → Nat) (p : Nat) : Nat := if its f p 0 = 1 ∨ its f p 0 = 5 then (if bar f p = true then 0 else its f p 2) else if its f p 0 = 2 then 1 else if its f p 0 = 3 then 2 * its f p 2 else if its f p 0 = 4 then 1 + its f p 2 else its f p 2
def spoilK (k : Nat) : Nat := if k = 1 then 2 else if k = 2 then 0 else if k = 3 then 5 else if k = 4 then 3 else if k = 5 then 4 else 1
def newAt (f : Nat → Nat) (p : Nat) : Nat := if its f p 1 < due f p then its f p 1 + min (walk f p) (due f p - its f p 1) else its f p 1 - min (walk f p) (its f p 1 - due f p)
def walk1 (f : Nat → Nat) (p : Nat) : Nat → Nat := va_up f (11 + 5 * p + 1) (newAt f p)
def walkN (f : Nat → Nat) : Nat → Nat → Nat
  | 0 => f
  | n + 1 => walk1 (walkN f n) n
def dueN (f d : Nat → Nat) : Nat → Nat → Nat
  | 0 => d
  | n + 1 => va_up (dueN f d n) n (due (walkN f n) n)
def mark1 (f d : Nat → Nat) (p : Nat) : Nat → Nat := if its f p 1 = d p then va_up f (11 + 5 * p + 3) (min 9999 (its f p 3 + 1)) else va_up f (11 + 5 * p + 4) (min 9999 (its f p 4 + spoilK (its f p 0)))
def markN (f d : Nat → Nat) : Nat → Nat → Nat
  | 0 => f
  | n + 1 => mark1 (markN f d n) d n
/-- where each was due when it walked -/
def duF (f : Nat → Nat) (p : Nat) : Nat := due (walkN f p) p
def minF (f : Nat → Nat) : Nat → Nat := va_up (markN (walkN f (f 1)) (duF f) (f 1)) 0 (f 0 + 1)
def timeF (f : Nat → Nat) : Nat := setN (fun p => decide (its (walkN f (f 1)) p 1 = duF f p)) (f 1)
def goF (f : Nat → Nat) : Nat → Nat → Nat
  | 0 => f
  | n + 1 => minF (goF f n)
/-- what holds of every row -/
def Inv (f : Nat → Nat) : Prop := f 0 ≤ 200000 ∧ f 1 ≤ 8 ∧ (∀ q, q < 6 → sc f q ≤ 11) ∧ (∀ b, b < 3 → be f b ≤ 47) ∧ ∀ p, p < 8 → its f p 0 ≤ 5 ∧ its f p 1 ≤ 11 ∧ its f p 2 ≤ 4 ∧ its f p 3 ≤ 9999 ∧ its f p 4 ≤ 9999
theorem Inv.its_le {f : Nat → Nat} (h : Inv f) {p w : Nat} (hp : p < 8) (hw : w < 5) : its f p w ≤ 9999 := by
  obtain ⟨h0, h1, h2, h3, h4⟩ := h.2.2.2.2 p hp
  rcases (show w = 0 ∨ w = 1 ∨ w = 2 ∨ w = 3 ∨ w = 4 by omega) with rfl | rfl | rfl | rfl | rfl <;> omega
theorem qtr_lt (f : Nat → Nat) : qtr f < 6 := Nat.mod_lt _ (by decide)
theorem va_up_s {α : Type} (f : Nat → α) (k : Nat) (v : α) : va_up f k v k = v := by unfold va_up; rw [if_pos rfl]
theorem va_up_n {α : Type} (f : Nat → α) {k j : Nat} (v : α) (h : j ≠ k) : va_up f k v j = f j := by unfold va_up; rw [if_neg h]
theorem cmpL {x y : Int64} : (x < y ↔ x.toInt < y.toInt) ∧ (x ≤ y ↔ x.toInt ≤ y.toInt) := ⟨Int64.lt_iff_toInt_lt, Int64.le_iff_toInt_le⟩
theorem its_up {f : Nat → Nat} {p q w z v : Nat} (hw : w < 5) (hz : z < 5) : its (va_up f (11 + 5 * p + w) v) q z = if q = p ∧ z = w then v else its f q z := by
  unfold its va_up
  by_cases h : q = p ∧ z = w
  · rw [if_pos h, h.1, h.2, if_pos rfl]
  · rw [if_neg h, if_neg (fun e => h (by omega))]
theorem its_up_e {f : Nat → Nat} {p w v : Nat} : its (va_up f (11 + 5 * p + w) v) p w = v := by unfold its; rw [va_up_s]
theorem its_up_n {f : Nat → Nat} {p q w z v : Nat} (hw : w < 5) (hz : z < 5) (h : q ≠ p ∨ z ≠ w) : its (va_up f (11 + 5 * p + w) v) q z = its f q z := by
  rw [its_up hw hz, if_neg (by omega)]
theorem its_lo {f : Nat → Nat} {k v q z : Nat} (hk : k < 11) : its (va_up f k v) q z = its f q z := by unfold its; rw [va_up_n _ _ (by omega)]
theorem up_lo {f : Nat → Nat} {p w v k : Nat} (hk : k < 11) : va_up f (11 + 5 * p + w) v k = f k := va_up_n _ _ (by omega)
theorem sc_up {f : Nat → Nat} {p w v q : Nat} (hq : q < 6) : sc (va_up f (11 + 5 * p + w) v) q = sc f q := by unfold sc; exact up_lo (by omega)
theorem be_up {f : Nat → Nat} {p w v q : Nat} (hq : q < 3) : be (va_up f (11 + 5 * p + w) v) q = be f q := by unfold be; exact up_lo (by omega)
def bnd (w : Nat) : Nat := if w = 0 then 5 else if w = 1 then 11 else if w = 2 then 4 else 9999
theorem Inv.bd {f : Nat → Nat} (h : Inv f) {p w : Nat} (hp : p < 8) (hw : w < 5) : its f p w ≤ bnd w := by
  obtain ⟨h0, h1, h2, h3, h4⟩ := h.2.2.2.2 p hp
  rcases (show w = 0 ∨ w = 1 ∨ w = 2 ∨ w = 3 ∨ w = 4 by omega) with rfl | rfl | rfl | rfl | rfl <;> simpa [bnd]
theorem Inv_set {f : Nat → Nat} (h : Inv f) {p w v : Nat} (hw : w < 5) (hv : v ≤ bnd w) : Inv (va_up f (11 + 5 * p + w) v) := by
  refine ⟨by rw [up_lo (by omega)]; exact h.1, by rw [up_lo (by omega)]; exact h.2.1, fun q hq => by rw [sc_up hq]; exact h.2.2.1 q hq, fun q hq => by rw [be_up hq]; exact h.2.2.2.1 q hq, fun q hq => ?_⟩
  have key : ∀ z, z < 5 → its (va_up f (11 + 5 * p + w) v) q z ≤ bnd z := fun z hz => by
    rw [its_up hw hz]
    by_cases e : q = p ∧ z = w
    · rw [if_pos e, e.2]; exact hv
    · rw [if_neg e]; exact h.bd hq hz
  exact ⟨key 0 (by omega), key 1 (by omega), key 2 (by omega), key 3 (by omega), key 4 (by omega)⟩
theorem or_nI (x y : Nat) : nI x ||| nI y = nI (x ||| y) := by
  apply Int32.toBitVec_inj.mp
  show BitVec.ofNat 32 x ||| BitVec.ofNat 32 y = BitVec.ofNat 32 (x ||| y)
  exact (BitVec.ofNat_or).symm
theorem sh1 : ∀ p, p < 8 → nI 1 <<< (nI p &&& 31) = nI (2 ^ p) := by decide +kernel
def sgnI (x : Int32) : Int32 := if 0 < x then 1 else if x < 0 then -1 else 0
theorem next_nI : ∀ x, x < 12 → ∀ y, y < 12 → nI x + sgnI (nI y - nI x) = nI (if x < y then x + 1 else if y < x then x - 1 else x) := by decide +kernel
set_option maxRecDepth 100000 in
theorem step_nI : ∀ x, x < 12 → ∀ y, y < 12 → ∀ z, z < 12 → (x < y ∨ z ≤ x - y) → nI x + nI z * sgnI (nI y - nI x) = nI (if x < y then x + z else x - z) := by decide +kernel
theorem singW_le {f : Nat → Nat} (h : Inv f) : singW f ≤ 11 := by
  unfold singW
  split
  · omega
  · exact h.2.2.1 _ (qtr_lt f)
theorem writ_le {f : Nat → Nat} (h : Inv f) (p : Nat) : writ f p ≤ 11 := by
  have h1 := h.2.2.1 _ (qtr_lt f)
  have h2 := singW_le h
  have h3 := Nat.mod_lt (its f p 1 + 1) (show 0 < 12 by omega)
  unfold writ
  repeat' split
  all_goals omega
theorem due_le {f : Nat → Nat} (h : Inv f) (p : Nat) : due f p ≤ 11 := by
  have := writ_le h p
  unfold due
  split <;> omega
theorem newAt_le {f : Nat → Nat} (h : Inv f) {p : Nat} (hp : p < 8) : newAt f p ≤ 11 := by
  have h1 := due_le h p
  have h2 := (h.2.2.2.2 p hp).2.1
  unfold newAt
  split <;> omega
theorem walk1_inv {f : Nat → Nat} (h : Inv f) {p : Nat} (hp : p < 8) : Inv (walk1 f p) := Inv_set h (by omega) (by have := newAt_le h hp; simpa [bnd] using this)
theorem walkN_inv {f : Nat → Nat} (h : Inv f) : ∀ n, n ≤ 8 → Inv (walkN f n)
  | 0, _ => h
  | n + 1, hn => walk1_inv (walkN_inv h n (by omega)) (by omega)
theorem walkN_lo (f : Nat → Nat) {k : Nat} (hk : k < 11) : ∀ n, walkN f n k = f k
  | 0 => rfl
  | n + 1 => by
    have ih := walkN_lo f hk n
    show va_up (walkN f n) _ _ k = f k
    rw [up_lo hk, ih]
theorem walkN_its (f : Nat → Nat) {q w : Nat} (hw : w < 5) (h1 : w ≠ 1) : ∀ n, its (walkN f n) q w = its f q w
  | 0 => rfl
  | n + 1 => by
    have ih := walkN_its f (q := q) hw h1 n
    show its (va_up (walkN f n) _ _) q w = its f q w
    rw [its_up_n (by omega) hw (Or.inr h1), ih]
theorem dueN_at (f d : Nat → Nat) {p : Nat} : ∀ n, p < n → dueN f d n p = duF f p
  | 0, h => absurd h (Nat.not_lt_zero _)
  | n + 1, h => by
    show va_up (dueN f d n) n (due (walkN f n) n) p = duF f p
    by_cases e : p = n
    · subst e; rw [va_up_s]; rfl
    · rw [va_up_n _ _ e]; exact dueN_at f d n (by omega)
theorem mark1_lo (f d : Nat → Nat) (p : Nat) {k : Nat} (hk : k < 11) : mark1 f d p k = f k := by
  unfold mark1
  split <;> exact up_lo hk
theorem markN_lo (f d : Nat → Nat) {k : Nat} (hk : k < 11) : ∀ n, markN f d n k = f k
  | 0 => rfl
  | n + 1 => by
    show mark1 (markN f d n) d n k = f k
    rw [mark1_lo _ _ _ hk, markN_lo f d hk n]
theorem mark1_its (f d : Nat → Nat) (p : Nat) {q w : Nat} (hw : w < 3) : its (mark1 f d p) q w = its f q w := by
  unfold mark1
  split <;> exact its_up_n (by omega) (by omega) (by omega)
theorem markN_its (f d : Nat → Nat) {q w : Nat} (hw : w < 3) : ∀ n, its (markN f d n) q w = its f q w
  | 0 => rfl
  | n + 1 => by
    show its (mark1 (markN f d n) d n) q w = its f q w
    rw [mark1_its _ _ _ hw, markN_its f d hw n]
theorem spoilK_le (k : Nat) : spoilK k ≤ 5 := by
  unfold spoilK
  repeat' split
  all_goals omega
theorem mark1_inv {f : Nat → Nat} (h : Inv f) (d : Nat → Nat) (p : Nat) : Inv (mark1 f d p) := by
  unfold mark1
  split
  · exact Inv_set h (by omega) (by simp [bnd]; omega)
  · exact Inv_set h (by omega) (by simp [bnd]; omega)
theorem markN_inv {f : Nat → Nat} (h : Inv f) (d : Nat → Nat) : ∀ n, Inv (markN f d n)
  | 0 => h
  | n + 1 => mark1_inv (markN_inv h d n) d n
theorem Inv_min {f : Nat → Nat} (h : Inv f) {v : Nat} (hv : v ≤ 200000) : Inv (va_up f 0 v) := by
  refine ⟨by rw [va_up_s]; exact hv, by rw [va_up_n _ _ (by omega)]; exact h.2.1, fun q hq => ?_, fun q hq => ?_, fun q hq => ?_⟩
  · have := h.2.2.1 q hq; unfold sc at this ⊢; rwa [va_up_n _ _ (by omega)]
  · have := h.2.2.2.1 q hq; unfold be at this ⊢; rwa [va_up_n _ _ (by omega)]
  · have := h.2.2.2.2 q hq; simpa only [its_lo (show 0 < 11 by omega)] using this
theorem minF_inv {f : Nat → Nat} (h : Inv f) (h0 : f 0 + 1 ≤ 200000) : Inv (minF f) := Inv_min (markN_inv (walkN_inv h _ h.2.1) _ _) h0
theorem minF_0 (f : Nat → Nat) : minF f 0 = f 0 + 1 := by unfold minF; rw [va_up_s]
theorem minF_lo (f : Nat → Nat) {k : Nat} (hk : k < 11) (h0 : k ≠ 0) : minF f k = f k := by unfold minF; rw [va_up_n _ _ h0, markN_lo _ _ hk, walkN_lo _ hk]
theorem goF_0 (f : Nat → Nat) : ∀ n, goF f n 0 = f 0 + n
  | 0 => rfl
  | n + 1 => by
    show minF (goF f n) 0 = f 0 + (n + 1)
    rw [minF_0, goF_0 f n]; omega
theorem goF_lo (f : Nat → Nat) {k : Nat} (hk : k < 11) (h0 : k ≠ 0) : ∀ n, goF f n k = f k
  | 0 => rfl
  | n + 1 => by
    show minF (goF f n) k = f k
    rw [minF_lo _ hk h0, goF_lo f hk h0 n]
theorem goF_inv {f : Nat → Nat} (h : Inv f) : ∀ n, f 0 + n ≤ 200000 → Inv (goF f n)
  | 0, _ => h
  | n + 1, hn => minF_inv (goF_inv h n (by omega)) (by rw [goF_0]; omega)
def cp (f o : Nat → Nat) (n : Nat) : Nat → Nat := fun i => if i < n then f i else o i
theorem cp_0 (f o : Nat → Nat) : cp f o 0 = o := funext fun i => by unfold cp; rw [if_neg (Nat.not_lt_zero _)]
theorem cp_succ (f o : Nat → Nat) (n : Nat) : va_up (cp f o n) n (f n) = cp f o (n + 1) := funext fun i => by
  unfold cp va_up
  by_cases h : i = n
  · subst h; rw [if_pos rfl, if_pos (Nat.lt_succ_self _)]
  · rw [if_neg h]
    show (if i < n then f i else o i) = _
    by_cases h2 : i < n
    · rw [if_pos h2, if_pos (by omega)]
    · rw [if_neg h2, if_neg (by omega)]
theorem cp_in {f o : Nat → Nat} {n i : Nat} (h : i < n) : cp f o n i = f i := by unfold cp; rw [if_pos h]
theorem nI_cong {x y : Nat} (h : x = y) : nI x = nI y := by rw [h]
def bump (st : Nat → Nat) (k : Nat) : Nat → Nat := va_up st k (st k + 1)
def nt (x : Int32) : Nat := x.toNatClampNeg
theorem nt_nI {j : Nat} (h : j < 2147483648) : nt (nI j) = j := nI_clamp h
theorem WX.ext_i {G : GT} {A : Nat → Prop} {s : State} {H : Heap} {locs : List Loc} {ws : va_W} (h : WX G A s H locs ws) (k : Nat) {b : Nat} {cA : ClassId} {N : Nat} {f f2 : Nat → Int32} (he : ws[k]? = some (b, .inl (cA, N, .inl f))) (e : ∀ j, j < N → f j = f2 j) : WX G A s H locs (ws.set k (b, .inl (cA, N, .inl f2))) := by
  have hk : k < ws.length := (List.getElem?_eq_some_iff.mp he).1
  refine ⟨fun i q hq => ?_, va_D_adr ?_ h.2.1, h.2.2⟩
  · by_cases hi : k = i
    · subst hi
      rw [List.getElem?_set_self hk] at hq
      cases hq
      exact va_at_i (h.1 k _ he) e
    · rw [List.getElem?_set_ne hi] at hq
      exact h.1 i q hq
  · apply List.ext_getElem?
    intro i
    rw [List.getElem?_map, List.getElem?_map]
    by_cases hi : k = i
    · subst hi; rw [List.getElem?_set_self hk, he]; rfl
    · rw [List.getElem?_set_ne hi]
theorem WX.ext_l {G : GT} {A : Nat → Prop} {s : State} {H : Heap} {locs : List Loc} {ws : va_W} (h : WX G A s H locs ws) (k : Nat) {b : Nat} {cA : ClassId} {N : Nat} {f f2 : Nat → Int64} (he : ws[k]? = some (b, .inl (cA, N, .inr (.inl f)))) (e : ∀ j, j < N → f j = f2 j) : WX G A s H locs (ws.set k (b, .inl (cA, N, .inr (.inl f2)))) := by
  have hk : k < ws.length := (List.getElem?_eq_some_iff.mp he).1
  refine ⟨fun i q hq => ?_, va_D_adr ?_ h.2.1, h.2.2⟩
  · by_cases hi : k = i
    · subst hi
      rw [List.getElem?_set_self hk] at hq
      cases hq
      exact va_at_l (h.1 k _ he) e
    · rw [List.getElem?_set_ne hi] at hq
      exact h.1 i q hq
  · apply List.ext_getElem?
    intro i
    rw [List.getElem?_map, List.getElem?_map]
    by_cases hi : k = i
    · subst hi; rw [List.getElem?_set_self hk, he]; rfl
    · rw [List.getElem?_set_ne hi]
section SW
variable {p : Program} {l : Launch} {e : Env} {R : Room} {s : State} {m : MethodId} {args : Array Value} {below : List Frame} {meth : Method} {c : Code} {H : Heap} {locs : List Loc} {cells slots : Nat} {Q : State → Prop}
variable {cc : ByteArray} {pc : Nat} {ls : Array Slot} {rest : List Value}
theorem n_swIn (hx : p.tables.exec = Jvm.exec) (hb : c.code = cc) {x v : Nat} (e1 : x = v) (hv : v < 2147483648) {dflt lo hi : Int} {offs : Array Int} {len : Nat} {off : Int} {tgt : Nat} (hdg : decode cc pc = .ok (.tableswitch dflt lo hi offs, len)) (h1 : ¬ (v : Int) < lo) (h2 : ¬ hi < (v : Int)) (ho : offs[((v : Int) - lo).toNat]? = some off) (ht : (pc : Int) + off = (tgt : Int)) (k : W p l e R s m args below meth c H locs cells slots Q (F0 m tgt ls rest)) : W p l e R s m args below meth c H locs cells slots Q (F0 m pc ls (.int (nI x) :: rest)) := by
  subst e1
  exact lv_tableIn hx hb hdg (by rw [nI_toInt hv]; exact h1) (by rw [nI_toInt hv]; exact h2) (by rw [nI_toInt hv]; exact ho) ht k
theorem n_swOut (hx : p.tables.exec = Jvm.exec) (hb : c.code = cc) {x : Nat} (hv : x < 2147483648) {dflt lo hi : Int} {offs : Array Int} {len : Nat} {tgt : Nat} (hdg : decode cc pc = .ok (.tableswitch dflt lo hi offs, len)) (h1 : (x : Int) < lo ∨ hi < (x : Int)) (ht : (pc : Int) + dflt = (tgt : Int)) (k : W p l e R s m args below meth c H locs cells slots Q (F0 m tgt ls rest)) : W p l e R s m args below meth c H locs cells slots Q (F0 m pc ls (.int (nI x) :: rest)) :=
  lv_tableOut hx hb hdg (by rw [nI_toInt hv]; exact h1) ht k
theorem i_swIn (hx : p.tables.exec = Jvm.exec) (hb : c.code = cc) {x : Int32} {v : Int} (e1 : x.toInt = v) {dflt lo hi : Int} {offs : Array Int} {len : Nat} {off : Int} {tgt : Nat} (hdg : decode cc pc = .ok (.tableswitch dflt lo hi offs, len)) (h1 : ¬ v < lo) (h2 : ¬ hi < v) (ho : offs[(v - lo).toNat]? = some off) (ht : (pc : Int) + off = (tgt : Int)) (k : W p l e R s m args below meth c H locs cells slots Q (F0 m tgt ls rest)) : W p l e R s m args below meth c H locs cells slots Q (F0 m pc ls (.int x :: rest)) := by
  subst e1
  exact lv_tableIn hx hb hdg h1 h2 ho ht k
end SW
theorem nI_2 : nI 2 = 2 := rfl
theorem setN_lt (c : Nat → Bool) : ∀ n, setN c n < 2 ^ n
  | 0 => Nat.lt_succ_self 0
  | n + 1 => by
    have ih := setN_lt c n
    show (if c n = true then setN c n ||| 2 ^ n else setN c n) < 2 ^ (n + 1)
    have h2 : 2 ^ n < 2 ^ (n + 1) := Nat.pow_lt_pow_right (by decide) (Nat.lt_succ_self n)
    split
    · exact Nat.or_lt_two_pow (Nat.lt_trans ih h2) h2
    · exact Nat.lt_trans ih h2
theorem whoAt_lt (f : Nat → Nat) (z : Nat) (h : f 1 ≤ 8) : whoAt f z < 256 := Nat.lt_of_lt_of_le (setN_lt _ _) (Nat.pow_le_pow_right (n := 2) (by decide) h)
theorem walk_le {f : Nat → Nat} (h : Inv f) {p : Nat} (hp : p < 8) : walk f p ≤ 8 := by
  have h5 := h.2.2.2.2 p hp
  unfold walk
  repeat' split
  all_goals omega
/-- one more -/
def addF (f : Nat → Nat) (k w : Nat) : Nat → Nat := va_up (va_up (va_up (va_up (va_up (va_up f 1 (f 1 + 1)) (11 + 5 * f 1 + 0) k) (11 + 5 * f 1 + 1) w) (11 + 5 * f 1 + 2) 1) (11 + 5 * f 1 + 3) 0) (11 + 5 * f 1 + 4) 0
