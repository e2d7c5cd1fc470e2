/-! tape, sheets, images, counts: what the calls answer and leave -/
theorem cz0 (z : Int32) : 0 ≤ z ↔ 0 ≤ z.toInt := Int32.le_iff_toInt_le
theorem clz (z : Int32) : z < 0 ↔ z.toInt < 0 := Int32.lt_iff_toInt_lt
theorem czn (z : Int32) {n : Nat} (hn : n < 2147483648) : z ≤ nI n ↔ z.toInt ≤ (n : Int) := by rw [Int32.le_iff_toInt_le, nI_toInt hn]
theorem cnz (z : Int32) {n : Nat} (hn : n < 2147483648) : nI n ≤ z ↔ (n : Int) ≤ z.toInt := by rw [Int32.le_iff_toInt_le, nI_toInt hn]
theorem clt (z : Int32) {n : Nat} (hn : n < 2147483648) : z < nI n ↔ z.toInt < (n : Int) := by rw [Int32.lt_iff_toInt_lt, nI_toInt hn]
theorem cgt (z : Int32) {n : Nat} (hn : n < 2147483648) : nI n < z ↔ (n : Int) < z.toInt := by rw [Int32.lt_iff_toInt_lt, nI_toInt hn]
theorem ceq (z : Int32) {n : Nat} (hn : n < 2147483648) : z = nI n ↔ z.toInt = (n : Int) := by rw [← Int32.toInt_inj, nI_toInt hn]
/-- the byte of x at k -/
def bV (x : Int32) (k : Nat) : Nat := nt ((x >>> (nI (8 * k) &&& 31)) &&& nI 255)
theorem and255 (y : Int32) : ∃ j : Nat, j < 256 ∧ y &&& nI 255 = nI j := pk_andE y (m := nI 255) 8 (by decide)
theorem bV_eq (x : Int32) (k : Nat) : (x >>> (nI (8 * k) &&& 31)) &&& nI 255 = nI (bV x k) := by
  obtain ⟨j, h1, h2⟩ := and255 (x >>> (nI (8 * k) &&& 31))
  unfold bV
  rw [h2, nt_nI (by omega)]
theorem bV_lt (x : Int32) (k : Nat) : bV x k < 256 := by
  obtain ⟨j, h1, h2⟩ := and255 (x >>> (nI (8 * k) &&& 31))
  unfold bV
  rw [h2, nt_nI (by omega)]
  exact h1
theorem dec_1 {j : Nat} (h : 1 ≤ j) : nI j - nI 1 + Int32.ofInt (-1) = nI (j - 1) - nI 1 := by
  rw [pk_sub h]
  have e : Int32.ofInt (-1) = -(nI 1) := by decide
  rw [e, ← Int32.sub_eq_add_neg]
theorem sub_lt0 {j : Nat} (h : j < 1000000) : nI j - nI 1 < 0 ↔ j = 0 := by
  rw [clz, pk_sub_toInt (by omega) (by omega)]
  omega
/-- n bytes of x, the highest first, i of them laid -/
def fedN (x : Int32) (n : Nat) (tb : Nat → Nat) (tn : Nat) : Nat → Nat → Nat
  | 0 => tb
  | i + 1 => va_up (fedN x n tb tn i) (tn + i) (bV x (n - 1 - i))
def P_feed (tb : Row) (tn : Nat) (st : Row) (x y r : Int32) (tb2 : Row) (tn2 : Nat) (st2 : Row) : Prop := (inR y 1 4 ∧ ((120 < tn + nt y ∧ r = -1000000002 ∧ tb2 = tb ∧ tn2 = tn ∧ st2 = bump st 1) ∨ (tn + nt y ≤ 120 ∧ r = nI (tn + nt y) ∧ tb2 = fedN x (nt y) tb tn (nt y) ∧ tn2 = tn + nt y ∧ st2 = st))) ∨ (¬ inR y 1 4 ∧ r = -1000000001 ∧ tb2 = tb ∧ tn2 = tn ∧ st2 = bump st 0)
def P_count (f : Row) (tn : Nat) (st : Row) (x r : Int32) (st2 : Row) : Prop := (inR x 0 3 ∧ r = (if x.toInt = 0 then nI (f 1) else if x.toInt = 1 then nI tn else if x.toInt = 2 then nI (sumN f 3 (f 1)) else nI (sumN f 4 (f 1))) ∧ st2 = st) ∨ (¬ inR x 0 3 ∧ r = -1000000001 ∧ st2 = bump st 0)
def sumT (st : Row) (v : Int) : Nat → Nat
  | 0 => 0
  | n + 1 => sumT st v n + (if v < 0 ∨ (n : Int) = v then st n else 0)
def P_status (st : Row) (x r : Int32) (st2 : Row) : Prop := (inR x (-1) 6 ∧ r = nI (sumT st x.toInt 7) ∧ st2 = st) ∨ (¬ inR x (-1) 6 ∧ r = -1000000001 ∧ st2 = bump st 0)
/-- sheets: bits, sizes, and 40 numbers of each -/
def ShI (bi si : Row) : Prop := ∀ i, i < 4 → si i ≤ 40 ∧ (bi i = 0 ∨ bi i = 8 ∨ bi i = 16 ∨ bi i = 64) ∧ (bi i = 0 → si i = 0)
def okB (y : Int32) : Prop := y.toInt = 0 ∨ y.toInt = 8 ∨ y.toInt = 16 ∨ y.toInt = 64
def znu (nu : Nat → Int64) (s n : Nat) : Nat → Int64 := fun i => if 40 * s ≤ i ∧ i < 40 * s + n then 0 else nu i
def BadS (bi si : Row) (nu : Nat → Int64) (st : Row) (k : Nat) (c r : Int32) (bi2 si2 : Row) (nu2 : Nat → Int64) (st2 : Row) : Prop := r = c ∧ bi2 = bi ∧ si2 = si ∧ nu2 = nu ∧ st2 = bump st k
def P_sheet (bi si : Row) (nu : Nat → Int64) (st : Row) (x y z r : Int32) (bi2 si2 : Row) (nu2 : Nat → Int64) (st2 : Row) : Prop := ((inR x 0 3 ∧ okB y) ∧ ((z.toInt < 0 ∧ BadS bi si nu st 6 (-1000000007) r bi2 si2 nu2 st2) ∨ (40 < z.toInt ∧ BadS bi si nu st 0 (-1000000001) r bi2 si2 nu2 st2) ∨ (inR z 0 40 ∧ r = nI (if y.toInt = 0 then 0 else nt z) ∧ bi2 = va_up bi (nt x) (nt y) ∧ si2 = va_up si (nt x) (if y.toInt = 0 then 0 else nt z) ∧ nu2 = znu nu (nt x) 40 ∧ st2 = st))) ∨ (¬ (inR x 0 3 ∧ okB y) ∧ BadS bi si nu st 0 (-1000000001) r bi2 si2 nu2 st2)
def nar (b : Nat) (v : Int64) : Int64 := if b = 8 then v.toInt32.toInt8.toInt32.toInt64 else if b = 16 then v.toInt32.toInt16.toInt32.toInt64 else v
/-- the finding of a sheet that isn't there (0) or is missing (5); else A -/
def onS (bi : Row) (x : Int32) (B : Nat → Int32 → Prop) (A : Prop) : Prop := (¬ inR x 0 3 ∧ B 0 (-1000000001)) ∨ ((inR x 0 3 ∧ bi (nt x) = 0) ∧ B 5 (-1000000006)) ∨ ((inR x 0 3 ∧ bi (nt x) ≠ 0) ∧ A)
def P_write (bi si : Row) (nu : Nat → Int64) (st : Row) (x y : Int32) (v r : Int64) (nu2 : Nat → Int64) (st2 : Row) : Prop := onS bi x (fun k c => r = c.toInt64 ∧ nu2 = nu ∧ st2 = bump st k) ((inR y 0 ((si (nt x) : Int) - 1) ∧ r = nu (40 * nt x + nt y) ∧ nu2 = vp_updL nu (40 * nt x + nt y) (nar (bi (nt x)) v) ∧ st2 = st) ∨ (¬ inR y 0 ((si (nt x) : Int) - 1) ∧ r = (-1000000001 : Int32).toInt64 ∧ nu2 = nu ∧ st2 = bump st 0))
def cpy (nu : Nat → Int64) (p q n : Nat) : Nat → Int64 := fun i => if q ≤ i ∧ i < q + n then nu (p + (i - q)) else nu i
def okC (si : Row) (x y z w n : Int32) : Prop := 0 ≤ y.toInt ∧ 0 ≤ w.toInt ∧ 0 ≤ n.toInt ∧ n.toInt + y.toInt ≤ (si (nt x) : Int) ∧ n.toInt + w.toInt ≤ (si (nt z) : Int)
def P_copy (bi si : Row) (nu : Nat → Int64) (st : Row) (x y z w n r : Int32) (nu2 : Nat → Int64) (st2 : Row) : Prop := (¬ (inR x 0 3 ∧ inR z 0 3) ∧ r = -1000000001 ∧ nu2 = nu ∧ st2 = bump st 0) ∨ ((inR x 0 3 ∧ inR z 0 3) ∧ (((bi (nt x) = 0 ∨ bi (nt z) = 0) ∧ r = -1000000006 ∧ nu2 = nu ∧ st2 = bump st 5) ∨ (¬ (bi (nt x) = 0 ∨ bi (nt z) = 0) ∧ ((bi (nt x) ≠ bi (nt z) ∧ r = -1000000003 ∧ nu2 = nu ∧ st2 = bump st 2) ∨ (bi (nt x) = bi (nt z) ∧ ((¬ okC si x y z w n ∧ r = -1000000001 ∧ nu2 = nu ∧ st2 = bump st 0) ∨ (okC si x y z w n ∧ r = n ∧ nu2 = cpy nu (40 * nt x + nt y) (40 * nt z + nt w) (nt n) ∧ st2 = st)))))))
/-- numbers of a sheet into the score: how far i, the row, how many came -/
def isS (v : Int64) : Bool := decide (0 ≤ v.toInt) && decide (v.toInt ≤ 11)
def layN (f : Row) (nu : Nat → Int64) (s : Nat) : Nat → Row
  | 0 => f
  | i + 1 => if isS (nu (40 * s + i)) = true then va_up (layN f nu s i) (2 + i) (nu (40 * s + i)).toInt.toNat else layN f nu s i
def layC (nu : Nat → Int64) (s : Nat) : Nat → Nat
  | 0 => 0
  | i + 1 => layC nu s i + (if isS (nu (40 * s + i)) = true then 1 else 0)
def P_lays (f : Row) (bi si : Row) (nu : Nat → Int64) (st : Row) (x r : Int32) (f2 st2 : Row) : Prop := onS bi x (fun k c => Bad f st k c r f2 st2) (r = nI (layC nu (nt x) (min 6 (si (nt x)))) ∧ f2 = layN f nu (nt x) (min 6 (si (nt x))) ∧ st2 = st)
/-- a book: n of its numbers -/
def bkN (f : Row) (nu : Nat → Int64) (s p : Nat) : Nat → Nat → Int64
  | 0 => nu
  | i + 1 => vp_updL (bkN f nu s p i) (40 * s + i) (nI (its (goF f i) p 1)).toInt64
def P_book (f : Row) (bi si : Row) (nu : Nat → Int64) (st : Row) (x y r : Int32) (nu2 : Nat → Int64) (st2 : Row) : Prop := onS bi x (fun k c => r = c ∧ nu2 = nu ∧ st2 = bump st k) ((isP f y ∧ r = nI (si (nt x)) ∧ nu2 = bkN f nu (nt x) (nt y) (si (nt x)) ∧ st2 = st) ∨ (¬ isP f y ∧ r = -1000000001 ∧ nu2 = nu ∧ st2 = bump st 0))
def isBk (f : Row) (nu : Nat → Int64) (s p n : Nat) : Prop := ∀ i, i < n → nu (40 * s + i) = (nI (its (goF f i) p 1)).toInt64
/-- as one of a kind, of a quickness -/
def asK (f : Row) (p k q : Nat) : Row := va_up (va_up f (11 + 5 * p + 0) k) (11 + 5 * p + 2) q
noncomputable def prN (f : Row) (nu : Nat → Int64) (s p n : Nat) : Nat → Nat
  | 0 => 0
  | i + 1 => prN f nu s p n i + (@ite Nat (isBk (asK f p (i / 4) (i % 4 + 1)) nu s p n) (Classical.propDecidable _) 1 0)
def P_read (f : Row) (bi si : Row) (nu : Nat → Int64) (st : Row) (x y r : Int32) (st2 : Row) : Prop := onS bi x (fun k c => r = c ∧ st2 = bump st k) ((isP f y ∧ r = nI (prN f nu (nt x) (nt y) (si (nt x)) 24) ∧ st2 = st) ∨ (¬ isP f y ∧ r = -1000000001 ∧ st2 = bump st 0))
def P_undo (f g : Row) (kp : Nat) (st : Row) (r : Int32) (f2 st2 : Row) : Prop := (kp = 0 ∧ Bad f st 3 (-1000000004) r f2 st2) ∨ (kp ≠ 0 ∧ r = nI (g 1) ∧ f2 = g ∧ st2 = st)
theorem znu_0 (nu : Nat → Int64) (s : Nat) : znu nu s 0 = nu := funext fun i => by unfold znu; rw [if_neg (by omega)]
theorem znu_s (nu : Nat → Int64) (s k : Nat) : vp_updL (znu nu s k) (40 * s + k) 0 = znu nu s (k + 1) := funext fun i => by
  unfold vp_updL znu
  by_cases h : i = 40 * s + k
  · rw [if_pos h, if_pos (by omega)]
  · rw [if_neg h]
    show (if 40 * s ≤ i ∧ i < 40 * s + k then (0 : Int64) else nu i) = _
    by_cases h2 : 40 * s ≤ i ∧ i < 40 * s + k
    · rw [if_pos h2, if_pos (by omega)]
    · rw [if_neg h2, if_neg (by omega)]
def cpm (nu mo : Nat → Int64) (p k : Nat) : Nat → Int64 := fun i => if i < k then nu (p + i) else mo i
theorem cpm_0 (nu mo : Nat → Int64) (p : Nat) : cpm nu mo p 0 = mo := funext fun i => by unfold cpm; rw [if_neg (by omega)]
theorem cpm_s (nu mo : Nat → Int64) (p k : Nat) : vp_updL (cpm nu mo p k) k (nu (p + k)) = cpm nu mo p (k + 1) := funext fun i => by
  unfold vp_updL cpm
  by_cases h : i = k
  · rw [if_pos h, if_pos (by omega), h]
  · rw [if_neg h]
    show (if i < k then nu (p + i) else mo i) = _
    by_cases h2 : i < k
    · rw [if_pos h2, if_pos (by omega)]
    · rw [if_neg h2, if_neg (by omega)]
theorem cpm_in {nu mo : Nat → Int64} {p n i : Nat} (h : i < n) : cpm nu mo p n i = nu (p + i) := by unfold cpm; rw [if_pos h]
theorem cpy_0 (nu : Nat → Int64) (p q : Nat) : cpy nu p q 0 = nu := funext fun i => by unfold cpy; rw [if_neg (by omega)]
theorem cpy_s (nu : Nat → Int64) (p q k : Nat) : vp_updL (cpy nu p q k) (q + k) (nu (p + k)) = cpy nu p q (k + 1) := funext fun i => by
  unfold vp_updL cpy
  by_cases h : i = q + k
  · rw [if_pos h, if_pos (by omega), h, Nat.add_sub_cancel_left]
  · rw [if_neg h]
    show (if q ≤ i ∧ i < q + k then nu (p + (i - q)) else nu i) = _
    by_cases h2 : q ≤ i ∧ i < q + k
    · rw [if_pos h2, if_pos (by omega)]
    · rw [if_neg h2, if_neg (by omega)]
theorem subT {s : Nat} {y : Int32} (hs : s ≤ 40) (hy : 0 ≤ y.toInt) : (nI s - y).toInt = (s : Int) - y.toInt := by
  have h1 := nI_toInt (n := s) (by omega)
  have h2 := Int32.toInt_lt y
  rw [Int32.toInt_sub, h1, Int.bmod_eq_of_le (by omega) (by omega)]
theorem l2i_small {v : Int64} (h0 : 0 ≤ v.toInt) (h1 : v.toInt ≤ 11) : v.toInt32 = nI v.toInt.toNat := by
  apply Int32.toInt_inj.mp
  rw [Int64.toInt_toInt32, nI_toInt (by omega), Int.bmod_eq_of_le (by omega) (by omega)]
  omega
theorem nar_small : ∀ s, s < 12 → ∀ b, nar b (nI s).toInt64 = (nI s).toInt64 := by
  have k1 : ∀ s, s < 12 → (nI s).toInt64.toInt32.toInt8.toInt32.toInt64 = (nI s).toInt64 := by decide +kernel
  have k2 : ∀ s, s < 12 → (nI s).toInt64.toInt32.toInt16.toInt32.toInt64 = (nI s).toInt64 := by decide +kernel
  intro s hs b
  unfold nar
  split
  · exact k1 s hs
  · split
    · exact k2 s hs
    · rfl
theorem asK_inv {f : Row} (h : Inv f) {p k q : Nat} (hk : k ≤ 5) (hq : q ≤ 4) : Inv (asK f p k q) := Inv_set (w := 2) (Inv_set (w := 0) h (by omega) (by simpa [bnd] using hk)) (by omega) (by simpa [bnd] using hq)
theorem asK_lo {f : Row} {p k q j : Nat} (hj : j < 11) : asK f p k q j = f j := by unfold asK; rw [up_lo hj, up_lo hj]
theorem prN_s (f : Row) (nu : Nat → Int64) (s p n i : Nat) : prN f nu s p n (i + 1) = prN f nu s p n i + (@ite Nat (isBk (asK f p (i / 4) (i % 4 + 1)) nu s p n) (Classical.propDecidable _) 1 0) := rfl
theorem prN_le (f : Row) (nu : Nat → Int64) (s p n : Nat) : ∀ i, prN f nu s p n i ≤ i
  | 0 => Nat.le_refl 0
  | i + 1 => by
    have := prN_le f nu s p n i
    rw [prN_s]
    by_cases h : isBk (asK f p (i / 4) (i % 4 + 1)) nu s p n
    · rw [if_pos h]; omega
    · rw [if_neg h]; omega
