/-! what each call answers and leaves, by the row f, the counts st and the arguments (any Int32) -/
def harm (f : Nat → Nat) : Int32 := nI (sumN f 3 (f 1)) - nI (sumN f 4 (f 1))
def valB (f : Nat → Nat) (x : Int32) : Int32 := if x = -1 then harm f else nI (f (nt x))
theorem nI_nem1 {w : Nat} (h : w < 2147483648) : ¬ nI w = -1 := fun e => by
  have h1 := nI_toInt h
  rw [e] at h1
  have h2 : (-1 : Int32).toInt = -1 := rfl
  omega
theorem valB_w (f : Nat → Nat) {w : Nat} (h : w < 2147483648) : valB f (nI w) = nI (f w) := by unfold valB; rw [if_neg (nI_nem1 h), nt_nI h]
theorem valB_h (f : Nat → Nat) : valB f (-1) = harm f := by unfold valB; rw [if_pos rfl]
theorem sumN_le {f : Nat → Nat} (h : Inv f) {w : Nat} (hw : w < 5) : ∀ n, n ≤ 8 → sumN f w n ≤ 9999 * n
  | 0, _ => Nat.le_refl 0
  | n + 1, hn => by
    have h1 := sumN_le h hw n (by omega)
    have h2 := h.its_le (p := n) (by omega) hw
    show sumN f w n + its f n w ≤ 9999 * (n + 1)
    omega
theorem harm_toInt {f : Nat → Nat} (h : Inv f) : (harm f).toInt = (sumN f 3 (f 1) : Int) - sumN f 4 (f 1) ∧ sumN f 3 (f 1) ≤ 79992 ∧ sumN f 4 (f 1) ≤ 79992 := by
  have h1 := h.2.1
  have h2 := sumN_le h (w := 3) (by omega) _ h1
  have h3 := sumN_le h (w := 4) (by omega) _ h1
  refine ⟨pk_sub_toInt (by omega) (by omega), by omega, by omega⟩
/-- the best of 0 .. v (the first one that no later one passes) -/
def am (g : Nat → Int32) : Nat → Nat
  | 0 => 0
  | v + 1 => if g (am g v) < g (v + 1) then v + 1 else am g v
theorem am_le (g : Nat → Int32) : ∀ v, am g v ≤ v
  | 0 => Nat.le_refl 0
  | v + 1 => by
    have := am_le g v
    show (if g (am g v) < g (v + 1) then v + 1 else am g v) ≤ v + 1
    split <;> omega
theorem am_cong {g g2 : Nat → Int32} : ∀ {v : Nat}, (∀ i, i ≤ v → g i = g2 i) → am g v = am g2 v
  | 0, _ => rfl
  | v + 1, h => by
    have ih := am_cong (fun i hi => h i (Nat.le_succ_of_le hi))
    show (if g (am g v) < g (v + 1) then v + 1 else am g v) = (if g2 (am g2 v) < g2 (v + 1) then v + 1 else am g2 v)
    rw [ih, h _ (Nat.le_succ_of_le (am_le g2 v)), h _ (Nat.le_refl _)]
/-- what something is when a place w of the row is v, n minutes on -/
def tryV (f : Nat → Nat) (w : Nat) (x : Int32) (n v : Nat) : Int32 := valB (goF (va_up f w v) n) x
/-- the first of 0 .. 300 with c; 301: none -/
def Fst (c : Nat → Prop) (n : Nat) : Prop := n ≤ 301 ∧ (∀ i, i < n → ¬ c i) ∧ (n < 301 → c n)
theorem Fst_one {c : Nat → Prop} {n m : Nat} (h : Fst c n) (h2 : Fst c m) : n = m := by
  obtain ⟨a1, a2, a3⟩ := h
  obtain ⟨b1, b2, b3⟩ := h2
  rcases Nat.lt_trichotomy n m with q | q | q
  · exact absurd (a3 (by omega)) (b2 n q)
  · exact q
  · exact absurd (b3 (by omega)) (a2 m q)
abbrev Row : Type := Nat → Nat
def Bad (f st : Row) (k : Nat) (c r : Int32) (f2 st2 : Row) : Prop := r = c ∧ f2 = f ∧ st2 = bump st k
def isP (f : Row) (x : Int32) : Prop := inR x 0 ((f 1 : Int) - 1)
def P_score (f st : Row) (x y r : Int32) (f2 st2 : Row) : Prop := ((inR x 0 5 ∧ inR y 0 11) ∧ r = nI (f (2 + nt x)) ∧ f2 = va_up f (2 + nt x) (nt y) ∧ st2 = st) ∨ (¬ (inR x 0 5 ∧ inR y 0 11) ∧ Bad f st 0 (-1000000001) r f2 st2)
def P_bell (f st : Row) (x y r : Int32) (f2 st2 : Row) : Prop := ((inR x 0 2 ∧ inR y 0 47) ∧ r = nI (f (8 + nt x)) ∧ f2 = va_up f (8 + nt x) (nt y) ∧ st2 = st) ∨ (¬ (inR x 0 2 ∧ inR y 0 47) ∧ Bad f st 0 (-1000000001) r f2 st2)
def nowV (f : Row) (v : Int) : Int32 := if v = 0 then nI (f 0) else if v = 1 then nI (qtr f) else if v = 2 then nI (sc f (qtr f)) else if v = 3 then ring f else if v = 4 then nI (dueOnes f) else 100000 + harm f
def P_now (f st : Row) (x r : Int32) (st2 : Row) : Prop := (inR x 0 5 ∧ r = nowV f x.toInt ∧ st2 = st) ∨ (¬ inR x 0 5 ∧ r = -1000000001 ∧ st2 = bump st 0)
def P_who (f st : Row) (x r : Int32) (st2 : Row) : Prop := (inR x 0 11 ∧ r = nI (whoAt f (nt x)) ∧ st2 = st) ∨ (¬ inR x 0 11 ∧ r = -1000000001 ∧ st2 = bump st 0)
def P_person (f st : Row) (x y r : Int32) (f2 st2 : Row) : Prop := ((inR x 0 5 ∧ inR y 0 11) ∧ ((f 1 = 8 ∧ Bad f st 1 (-1000000002) r f2 st2) ∨ (f 1 ≠ 8 ∧ r = nI (f 1) ∧ f2 = addF f (nt x) (nt y) ∧ st2 = st))) ∨ (¬ (inR x 0 5 ∧ inR y 0 11) ∧ Bad f st 0 (-1000000001) r f2 st2)
def ofV (f : Row) (p : Nat) (v : Int) : Int32 := if v ≤ 4 then nI (its f p v.toNat) else if v = 5 then nI (due f p) else if v = 6 then (if hears f p = true then nI 1 else nI 0) else if v = 7 then nI (walk f p) else nI (spoilK (its f p 0))
def P_of (f st : Row) (x y r : Int32) (st2 : Row) : Prop := ((isP f x ∧ inR y 0 8) ∧ r = ofV f (nt x) y.toInt ∧ st2 = st) ∨ (¬ (isP f x ∧ inR y 0 8) ∧ r = -1000000001 ∧ st2 = bump st 0)
def okSet (f : Row) (x y z : Int32) : Prop := isP f x ∧ ((y.toInt = 1 ∧ inR z 0 11) ∨ (y.toInt = 2 ∧ inR z 1 4) ∨ (y.toInt = 3 ∧ inR z 0 9999) ∨ (y.toInt = 4 ∧ inR z 0 9999))
def P_set (f st : Row) (x y z r : Int32) (f2 st2 : Row) : Prop := (okSet f x y z ∧ r = nI (its f (nt x) (nt y)) ∧ f2 = va_up f (11 + 5 * nt x + nt y) (nt z) ∧ st2 = st) ∨ (¬ okSet f x y z ∧ Bad f st 0 (-1000000001) r f2 st2)
def P_turn (f st : Row) (x y r : Int32) (f2 st2 : Row) : Prop := ((isP f x ∧ inR y 0 5) ∧ r = nI (its f (nt x) 0) ∧ f2 = va_up f (11 + 5 * nt x + 0) (nt y) ∧ st2 = st) ∨ (¬ (isP f x ∧ inR y 0 5) ∧ Bad f st 0 (-1000000001) r f2 st2)
def under (k o : Nat) : Prop := o = 0 ∨ k = o ∨ (k = 4 ∧ o = 2) ∨ (k = 5 ∧ o = 1)
def P_as (f st : Row) (x y r : Int32) (st2 : Row) : Prop := ((isP f x ∧ inR y 0 5) ∧ ((under (its f (nt x) 0) (nt y) ∧ r = nI (its f (nt x) 3) ∧ st2 = st) ∨ (¬ under (its f (nt x) 0) (nt y) ∧ r = -1000000003 ∧ st2 = bump st 2))) ∨ (¬ (isP f x ∧ inR y 0 5) ∧ r = -1000000001 ∧ st2 = bump st 0)
def P_minutes (f st : Row) (x r : Int32) (f2 st2 : Row) : Prop := (inR x 1 200 ∧ ((99999 < f 0 + nt x ∧ Bad f st 4 (-1000000005) r f2 st2) ∨ (f 0 + nt x ≤ 99999 ∧ r = nI (timeF (goF f (nt x - 1))) ∧ f2 = goF f (nt x) ∧ st2 = st))) ∨ (¬ inR x 1 200 ∧ Bad f st 0 (-1000000001) r f2 st2)
def onW (v : Int) : Nat := if v = 0 then 1 else if v = 1 then 3 else 4
def P_on (f st : Row) (x y z r : Int32) (st2 : Row) : Prop := ((isP f x ∧ inR y 0 300 ∧ inR z 0 2) ∧ r = nI (its (goF f (nt y)) (nt x) (onW z.toInt)) ∧ st2 = st) ∨ (¬ (isP f x ∧ inR y 0 300 ∧ inR z 0 2) ∧ r = -1000000001 ∧ st2 = bump st 0)
def P_harmony (f st : Row) (x r : Int32) (st2 : Row) : Prop := (inR x 0 300 ∧ r = harm (goF f (nt x)) ∧ st2 = st) ∨ (¬ inR x 0 300 ∧ r = -1000000001 ∧ st2 = bump st 0)
def tells (c : Nat → Prop) (st : Row) (r : Int32) (st2 : Row) : Prop := ∃ n, Fst c n ∧ ((n ≤ 300 ∧ r = nI n ∧ st2 = st) ∨ (300 < n ∧ r = -1000000004 ∧ st2 = bump st 3))
def P_comes (f st : Row) (x y r : Int32) (st2 : Row) : Prop := ((isP f x ∧ inR y 0 11) ∧ tells (fun n => its (goF f n) (nt x) 1 = nt y) st r st2) ∨ (¬ (isP f x ∧ inR y 0 11) ∧ r = -1000000001 ∧ st2 = bump st 0)
def P_plays (f st : Row) (x r : Int32) (st2 : Row) : Prop := (isP f x ∧ tells (fun n => its (goF f n) (nt x) 3 ≠ its f (nt x) 3) st r st2) ∨ (¬ isP f x ∧ r = -1000000001 ∧ st2 = bump st 0)
def P_meet (f st : Row) (x y r : Int32) (st2 : Row) : Prop := ((isP f x ∧ isP f y ∧ x ≠ y) ∧ tells (fun n => its (goF f n) (nt x) 1 = its (goF f n) (nt y) 1) st r st2) ∨ (¬ (isP f x ∧ isP f y ∧ x ≠ y) ∧ r = -1000000001 ∧ st2 = bump st 0)
def P_begin (f st : Row) (x y r : Int32) (st2 : Row) : Prop := ((isP f x ∧ inR y 1 100) ∧ r = nI (am (tryV f (11 + 5 * nt x + 1) (nI (11 + 5 * nt x + 3)) (nt y)) 11) ∧ st2 = st) ∨ (¬ (isP f x ∧ inR y 1 100) ∧ r = -1000000001 ∧ st2 = bump st 0)
def P_kind (f st : Row) (x y r : Int32) (st2 : Row) : Prop := ((isP f x ∧ inR y 1 100) ∧ r = nI (am (tryV f (11 + 5 * nt x + 0) (nI (11 + 5 * nt x + 3)) (nt y)) 5) ∧ st2 = st) ∨ (¬ (isP f x ∧ inR y 1 100) ∧ r = -1000000001 ∧ st2 = bump st 0)
def qOk (f : Row) (p n v k : Nat) : Prop := v ≤ goF (va_up f (11 + 5 * p + 2) k) n (11 + 5 * p + 3)
def P_quick (f st : Row) (x y z r : Int32) (st2 : Row) : Prop := ((isP f x ∧ inR y 1 100 ∧ inR z 0 9999) ∧ ((∃ k, 1 ≤ k ∧ k ≤ 4 ∧ (∀ j, 1 ≤ j → j < k → ¬ qOk f (nt x) (nt y) (nt z) j) ∧ qOk f (nt x) (nt y) (nt z) k ∧ r = nI k ∧ st2 = st) ∨ ((∀ j, 1 ≤ j → j ≤ 4 → ¬ qOk f (nt x) (nt y) (nt z) j) ∧ r = -1000000004 ∧ st2 = bump st 3))) ∨ (¬ (isP f x ∧ inR y 1 100 ∧ inR z 0 9999) ∧ r = -1000000001 ∧ st2 = bump st 0)
def P_compose (f st : Row) (x y r : Int32) (st2 : Row) : Prop := ((inR x 0 5 ∧ inR y 1 100) ∧ r = nI (am (tryV f (2 + nt x) (-1) (nt y)) 11) ∧ st2 = st) ∨ (¬ (inR x 0 5 ∧ inR y 1 100) ∧ r = -1000000001 ∧ st2 = bump st 0)
def P_deceive (f st : Row) (x y r : Int32) (st2 : Row) : Prop := ((inR x 0 2 ∧ inR y 1 60) ∧ r = nI (am (fun v => - tryV f (8 + nt x) (-1) (nt y) v) 47) ∧ st2 = st) ∨ (¬ (inR x 0 2 ∧ inR y 1 60) ∧ r = -1000000001 ∧ st2 = bump st 0)
def P_worst (f st : Row) (x r : Int32) (st2 : Row) : Prop := (inR x 0 300 ∧ ((f 1 = 0 ∧ r = -1000000004 ∧ st2 = bump st 3) ∨ (f 1 ≠ 0 ∧ r = nI (am (fun p => nI (its (goF f (nt x)) p 4)) (f 1 - 1)) ∧ st2 = st))) ∨ (¬ inR x 0 300 ∧ r = -1000000001 ∧ st2 = bump st 0)
theorem va_up_id {α : Type} (f : Nat → α) (k : Nat) : va_up f k (f k) = f := funext fun j => by
  unfold va_up
  by_cases h : j = k
  · rw [if_pos h, h]
  · rw [if_neg h]
theorem bst_t {g : Nat → Int32} {v best : Nat} {mo : Int32} (hg : ¬ g 0 ≤ -999999) (hb : (v = 0 → best = 0 ∧ mo = -999999) ∧ (0 < v → best = am g (v - 1) ∧ mo = g (am g (v - 1)))) (c : g v ≤ mo) : best = am g v ∧ mo = g (am g v) := by
  cases v with
  | zero => obtain ⟨h1, h2⟩ := hb.1 rfl; subst h2; exact absurd c hg
  | succ k =>
    obtain ⟨h1, h2⟩ := hb.2 (Nat.succ_pos k)
    have e : k + 1 - 1 = k := rfl
    rw [e] at h1 h2
    have h3 : am g (k + 1) = am g k := by
      show (if g (am g k) < g (k + 1) then k + 1 else am g k) = am g k
      rw [if_neg (Int32.not_lt.mpr (by rw [← h2]; exact c))]
    rw [h3]
    exact ⟨h1, h2⟩
theorem bst_f {g : Nat → Int32} {v best : Nat} {mo : Int32} (hb : (v = 0 → best = 0 ∧ mo = -999999) ∧ (0 < v → best = am g (v - 1) ∧ mo = g (am g (v - 1)))) (c : ¬ g v ≤ mo) : v = am g v ∧ g v = g (am g v) := by
  cases v with
  | zero => exact ⟨rfl, rfl⟩
  | succ k =>
    obtain ⟨h1, h2⟩ := hb.2 (Nat.succ_pos k)
    have e : k + 1 - 1 = k := rfl
    rw [e] at h1 h2
    have h3 : am g (k + 1) = k + 1 := by
      show (if g (am g k) < g (k + 1) then k + 1 else am g k) = k + 1
      rw [if_pos (by rw [← h2]; exact Int32.not_le.mp c)]
    rw [h3]
    exact ⟨rfl, rfl⟩
theorem Inv_sc {f : Nat → Nat} (h : Inv f) {q v : Nat} (hq : q < 6) (hv : v ≤ 11) : Inv (va_up f (2 + q) v) := by
  refine ⟨by rw [va_up_n _ _ (by omega)]; exact h.1, by rw [va_up_n _ _ (by omega)]; exact h.2.1, fun z hz => ?_, fun z hz => ?_, fun z hz => ?_⟩
  · have := h.2.2.1 z hz; unfold sc at this ⊢; unfold va_up; split <;> omega
  · have := h.2.2.2.1 z hz; unfold be at this ⊢; rwa [va_up_n _ _ (by omega)]
  · have := h.2.2.2.2 z hz; simpa only [its_lo (show 2 + q < 11 by omega)] using this
theorem Inv_be {f : Nat → Nat} (h : Inv f) {q v : Nat} (hq : q < 3) (hv : v ≤ 47) : Inv (va_up f (8 + q) v) := by
  refine ⟨by rw [va_up_n _ _ (by omega)]; exact h.1, by rw [va_up_n _ _ (by omega)]; exact h.2.1, fun z hz => ?_, fun z hz => ?_, fun z hz => ?_⟩
  · have := h.2.2.1 z hz; unfold sc at this ⊢; rwa [va_up_n _ _ (by omega)]
  · have := h.2.2.2.1 z hz; unfold be at this ⊢; unfold va_up; split <;> omega
  · have := h.2.2.2.2 z hz; simpa only [its_lo (show 8 + q < 11 by omega)] using this
theorem goF_its_lo {f : Nat → Nat} {p w n : Nat} : its (goF f n) p w = goF f n (11 + 5 * p + w) := rfl
theorem one_mulI (x : Int32) : nI 1 * x = x := Int32.one_mul x
theorem neg_mulI (x : Int32) : (-1) * x = -x := by rw [Int32.neg_mul, Int32.one_mul]
theorem big_w {F : Nat → Nat} {w : Nat} (hw : w < 2147483648) (hF : F w < 2147483648) : ¬ nI 1 * valB F (nI w) ≤ -999999 := by
  rw [one_mulI, valB_w _ hw]
  intro q
  have h1 := Int32.le_iff_toInt_le.mp q
  rw [nI_toInt hF] at h1
  have h2 : (-999999 : Int32).toInt = -999999 := by decide
  omega
theorem big_h {F : Nat → Nat} (h : Inv F) : ¬ nI 1 * valB F (-1) ≤ -999999 := by
  rw [one_mulI, valB_h]
  intro q
  have h1 := Int32.le_iff_toInt_le.mp q
  have h2 : (-999999 : Int32).toInt = -999999 := by decide
  have h3 := harm_toInt h
  omega
theorem neg_toInt {x : Int32} (h : -2147483647 ≤ x.toInt) : (-x).toInt = -x.toInt := by
  have h1 := Int32.toInt_neg x
  have h3 := Int32.toInt_lt x
  rw [h1, Int.bmod_eq_of_le (by omega) (by omega)]
theorem big_n {F : Nat → Nat} (h : Inv F) : ¬ (-1) * valB F (-1) ≤ -999999 := by
  rw [neg_mulI, valB_h]
  intro q
  have h1 := Int32.le_iff_toInt_le.mp q
  have h2 : (-999999 : Int32).toInt = -999999 := by decide
  have h3 := harm_toInt h
  rw [neg_toInt (by omega)] at h1
  omega
theorem am_step {g : Nat → Int32} {i : Nat} (hi : 1 ≤ i) : am g i = if g (am g (i - 1)) < g i then i else am g (i - 1) := by
  obtain ⟨k, rfl⟩ : ∃ k, i = k + 1 := ⟨i - 1, by omega⟩
  rfl
theorem its_goF_le {f : Nat → Nat} (h : Inv f) {n : Nat} (hn : f 0 + n ≤ 200000) {p w : Nat} (hp : p < 8) (hw : w < 5) : its (goF f n) p w ≤ 9999 := (goF_inv h n hn).its_le hp hw
