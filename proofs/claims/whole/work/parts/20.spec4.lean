/-! the text: bytes tb, tn of them -/
def run (c : Nat → Bool) : Nat → Nat → Nat
  | 0, i => i
  | n + 1, i => if c i = true then run c n (i + 1) else i
def scan (tn : Nat) (c : Nat → Bool) (i : Nat) : Nat := run c (tn - i) i
theorem scan_t {tn : Nat} {c : Nat → Bool} {i : Nat} (hc : c i = true) (hi : i < tn) : scan tn c i = scan tn c (i + 1) := by
  unfold scan
  obtain ⟨k, hk⟩ : ∃ k, tn - i = k + 1 := ⟨tn - i - 1, by omega⟩
  have h2 : tn - (i + 1) = k := by omega
  rw [hk, h2]
  show (if c i = true then run c k (i + 1) else i) = _
  rw [if_pos hc]
theorem scan_f {tn : Nat} {c : Nat → Bool} {i : Nat} (hc : ¬ c i = true) : scan tn c i = i := by
  unfold scan
  cases tn - i with
  | zero => rfl
  | succ k =>
    show (if c i = true then run c k (i + 1) else i) = i
    rw [if_neg hc]
theorem run_ge (c : Nat → Bool) : ∀ n i, i ≤ run c n i
  | 0, _ => Nat.le_refl _
  | n + 1, i => by
    show i ≤ (if c i = true then run c n (i + 1) else i)
    have := run_ge c n (i + 1)
    split <;> omega
theorem run_le (c : Nat → Bool) : ∀ n i, run c n i ≤ i + n
  | 0, _ => Nat.le_refl _
  | n + 1, i => by
    show (if c i = true then run c n (i + 1) else i) ≤ i + (n + 1)
    have := run_le c n (i + 1)
    split <;> omega
theorem run_in (c : Nat → Bool) : ∀ n i j, i ≤ j → j < run c n i → c j = true
  | 0, i, j, h1, h2 => absurd h2 (Nat.not_lt.mpr h1)
  | n + 1, i, j, h1, h2 => by
    have h3 : j < (if c i = true then run c n (i + 1) else i) := h2
    by_cases h : c i = true
    · rw [if_pos h] at h3
      by_cases e : j = i
      · rw [e]; exact h
      · exact run_in c n (i + 1) j (by omega) h3
    · rw [if_neg h] at h3; omega
theorem scan_ge {tn : Nat} {c : Nat → Bool} {i : Nat} : i ≤ scan tn c i := run_ge c _ i
theorem scan_le {tn : Nat} {c : Nat → Bool} {i : Nat} (h : i ≤ tn) : scan tn c i ≤ tn := by
  have := run_le c (tn - i) i
  unfold scan
  omega
theorem scan_in {tn : Nat} {c : Nat → Bool} {i j : Nat} (h1 : i ≤ j) (h2 : j < scan tn c i) : c j = true := run_in c _ i j h1 h2
def cB (tb : Row) (tn i : Nat) : Bool := decide (i < tn) && decide (tb i = 32)
def cL (tb : Row) (tn i : Nat) : Bool := decide (i < tn) && (decide (97 ≤ tb i) && decide (tb i ≤ 122))
def cD (tb : Row) (tn i : Nat) : Bool := decide (i < tn) && (decide (48 ≤ tb i) && decide (tb i ≤ 57))
theorem cB_iff {tb : Row} {tn i : Nat} : cB tb tn i = true ↔ i < tn ∧ tb i = 32 := by unfold cB; rw [Bool.and_eq_true, decide_eq_true_iff, decide_eq_true_iff]
theorem cL_iff {tb : Row} {tn i : Nat} : cL tb tn i = true ↔ i < tn ∧ 97 ≤ tb i ∧ tb i ≤ 122 := by unfold cL; rw [Bool.and_eq_true, Bool.and_eq_true, decide_eq_true_iff, decide_eq_true_iff, decide_eq_true_iff]
theorem cD_iff {tb : Row} {tn i : Nat} : cD tb tn i = true ↔ i < tn ∧ 48 ≤ tb i ∧ tb i ≤ 57 := by unfold cD; rw [Bool.and_eq_true, Bool.and_eq_true, decide_eq_true_iff, decide_eq_true_iff, decide_eq_true_iff]
def byI (tb : Row) (tn k : Nat) : Int32 := if k < tn then nI (tb k) else -1
theorem byI_in {tb : Row} {tn k : Nat} (h : k < tn) : byI tb tn k = nI (tb k) := by unfold byI; rw [if_pos h]
theorem byI_out {tb : Row} {tn k : Nat} (h : tn ≤ k) : byI tb tn k = -1 := by unfold byI; rw [if_neg (by omega)]
theorem byI_R {tb : Row} {tn k : Nat} (hT : ∀ i, tb i < 256) {lo hi : Nat} : inR (byI tb tn k) lo hi ↔ k < tn ∧ lo ≤ tb k ∧ tb k ≤ hi := by
  have h1 := hT k
  by_cases h : k < tn
  · rw [byI_in h, inR_n (by omega)]; omega
  · rw [byI_out (by omega)]
    constructor
    · intro q
      have h2 : (-1 : Int32).toInt = -1 := rfl
      have := q.1
      omega
    · intro q; omega
theorem byI_B {tb : Row} {tn k : Nat} (hT : ∀ i, tb i < 256) {v : Nat} (hv : v < 256) : byI tb tn k = nI v ↔ k < tn ∧ tb k = v := by
  have h1 := hT k
  by_cases h : k < tn
  · rw [byI_in h, nI_eq (by omega) (by omega)]; omega
  · rw [byI_out (by omega)]
    constructor
    · intro q; exact absurd q.symm (nI_nem1 (by omega))
    · intro q; omega
/-- where a token starts, looked for from i on; where the one that starts at s ends -/
def tkS (tb : Row) (tn i : Nat) : Nat := scan tn (cB tb tn) i
def tkE (tb : Row) (tn s : Nat) : Nat := if tn ≤ s then s else if cL tb tn s = true then scan tn (cL tb tn) (s + 1) else if cD tb tn s = true then scan tn (cD tb tn) (s + 1) else s + 1
def nx (tb : Row) (tn s : Nat) : Nat := tkS tb tn (tkE tb tn s)
theorem tkS_le {tb : Row} {tn i : Nat} (h : i ≤ tn) : tkS tb tn i ≤ tn := scan_le h
theorem tkS_ge {tb : Row} {tn i : Nat} : i ≤ tkS tb tn i := scan_ge
theorem tkE_le {tb : Row} {tn s : Nat} (h : s ≤ tn) : tkE tb tn s ≤ tn := by
  unfold tkE
  by_cases h1 : tn ≤ s
  · rw [if_pos h1]; omega
  · rw [if_neg h1]
    split
    · exact scan_le (by omega)
    · split
      · exact scan_le (by omega)
      · omega
theorem tkE_gt {tb : Row} {tn s : Nat} (h : s < tn) : s < tkE tb tn s := by
  unfold tkE
  rw [if_neg (by omega)]
  have h1 := scan_ge (tn := tn) (c := cL tb tn) (i := s + 1)
  have h2 := scan_ge (tn := tn) (c := cD tb tn) (i := s + 1)
  repeat' split
  all_goals omega
theorem tkE_ge {tb : Row} {tn s : Nat} : s ≤ tkE tb tn s := by
  by_cases h : s < tn
  · exact Nat.le_of_lt (tkE_gt h)
  · unfold tkE; rw [if_pos (by omega)]; omega
theorem nx_le {tb : Row} {tn s : Nat} (h : s ≤ tn) : nx tb tn s ≤ tn := tkS_le (tkE_le h)
theorem nx_gt {tb : Row} {tn s : Nat} (h : s < tn) : s < nx tb tn s := Nat.lt_of_lt_of_le (tkE_gt h) tkS_ge
theorem tkE_L {tb : Row} {tn s : Nat} (h : cL tb tn s = true) : tkE tb tn s = scan tn (cL tb tn) (s + 1) := by
  have := (cL_iff.mp h).1
  unfold tkE; rw [if_neg (by omega), if_pos h]
theorem cL_nD {tb : Row} {tn s : Nat} (h : cL tb tn s = true) : ¬ cD tb tn s = true := fun q => by
  have := cL_iff.mp h; have := cD_iff.mp q; omega
theorem tkE_D {tb : Row} {tn s : Nat} (h : cD tb tn s = true) : tkE tb tn s = scan tn (cD tb tn) (s + 1) := by
  have h1 := (cD_iff.mp h).1
  unfold tkE; rw [if_neg (by omega), if_neg (fun q => cL_nD q h), if_pos h]
theorem tkE_1 {tb : Row} {tn s : Nat} (h0 : s < tn) (h : ¬ cL tb tn s = true) (h2 : ¬ cD tb tn s = true) : tkE tb tn s = s + 1 := by
  unfold tkE; rw [if_neg (by omega), if_neg h, if_neg h2]
theorem tkE_0 {tb : Row} {tn s : Nat} (h0 : tn ≤ s) : tkE tb tn s = s := by unfold tkE; rw [if_pos h0]
theorem tk_letters {tb : Row} {tn s : Nat} (h : cL tb tn s = true) {k : Nat} (h1 : s ≤ k) (h2 : k < tkE tb tn s) : 97 ≤ tb k ∧ tb k ≤ 122 := by
  by_cases e : k = s
  · rw [e]; exact (cL_iff.mp h).2
  · rw [tkE_L h] at h2
    exact (cL_iff.mp (scan_in (by omega) h2)).2
theorem tk_digits {tb : Row} {tn s : Nat} (h : cD tb tn s = true) {k : Nat} (h1 : s ≤ k) (h2 : k < tkE tb tn s) : 48 ≤ tb k ∧ tb k ≤ 57 := by
  by_cases e : k = s
  · rw [e]; exact (cD_iff.mp h).2
  · rw [tkE_D h] at h2
    exact (cD_iff.mp (scan_in (by omega) h2)).2
/-- numbers, held as the one side and as the other holds them -/
def numM (tb : Row) (s : Nat) : Nat → Nat
  | 0 => 0
  | n + 1 => if 999 < numM tb s n then numM tb s n else 10 * numM tb s n + tb (s + n) - 48
def numC (tb : Row) (s : Nat) : Nat → Nat
  | 0 => 0
  | n + 1 => min 1000 (10 * numC tb s n + tb (s + n) - 48)
theorem numC_eq (tb : Row) (s : Nat) : ∀ n, (∀ i, i < n → 48 ≤ tb (s + i) ∧ tb (s + i) ≤ 57) → numC tb s n = min 1000 (numM tb s n) ∧ numM tb s n ≤ 9999
  | 0, _ => ⟨rfl, Nat.zero_le _⟩
  | n + 1, h => by
    obtain ⟨h1, h2⟩ := numC_eq tb s n (fun i hi => h i (by omega))
    have h3 := h n (by omega)
    show min 1000 (10 * numC tb s n + tb (s + n) - 48) = min 1000 (if 999 < numM tb s n then numM tb s n else 10 * numM tb s n + tb (s + n) - 48) ∧ (if 999 < numM tb s n then numM tb s n else 10 * numM tb s n + tb (s + n) - 48) ≤ 9999
    split <;> omega
def val (tb : Row) (tn s : Nat) : Nat := numC tb s (tkE tb tn s - s)
def nOk (tb : Row) (tn lo hi s : Nat) : Prop := cD tb tn s = true ∧ lo ≤ val tb tn s ∧ val tb tn s ≤ hi
theorem val_M {tb : Row} {tn s : Nat} (h : cD tb tn s = true) : val tb tn s = min 1000 (numM tb s (tkE tb tn s - s)) ∧ numM tb s (tkE tb tn s - s) ≤ 9999 := numC_eq tb s _ (fun i hi => tk_digits h (by omega) (by omega))
/-- a word is this one: its letters, the last first -/
def isWr (tb : Row) (s : Nat) : List Nat → Nat → Prop
  | [], n => n = 0
  | x :: t, n => ∃ m, n = m + 1 ∧ tb (s + m) = x ∧ isWr tb s t m
def isW (tb : Row) (tn : Nat) (w : List Nat) (s : Nat) : Prop := cL tb tn s = true ∧ isWr tb s w (tkE tb tn s - s)
def hN (tb : Row) (s : Nat) : Nat → Nat
  | 0 => 0
  | n + 1 => if 36028797018963967 < hN tb s n then hN tb s n else 32 * hN tb s n + (tb (s + n) - 96)
def hW : List Nat → Nat
  | [] => 0
  | x :: t => 32 * hW t + (x - 96)
theorem hN_pos (tb : Row) (s : Nat) : ∀ n, (∀ i, i < n + 1 → 97 ≤ tb (s + i) ∧ tb (s + i) ≤ 122) → 1 ≤ hN tb s (n + 1) := fun n h => by
  have h1 := h n (by omega)
  show 1 ≤ (if 36028797018963967 < hN tb s n then hN tb s n else 32 * hN tb s n + (tb (s + n) - 96))
  split <;> omega
theorem hN_lt (tb : Row) (s : Nat) : ∀ n, (∀ i, i < n → 97 ≤ tb (s + i) ∧ tb (s + i) ≤ 122) → hN tb s n < 1152921504606846976
  | 0, _ => by show (0 : Nat) < _; decide
  | n + 1, h => by
    have h1 := h n (by omega)
    have h2 := hN_lt tb s n (fun i hi => h i (by omega))
    show (if 36028797018963967 < hN tb s n then hN tb s n else 32 * hN tb s n + (tb (s + n) - 96)) < 1152921504606846976
    split <;> omega
theorem hN_iff (tb : Row) (s : Nat) : ∀ (w : List Nat) (n : Nat), (∀ i, i < n → 97 ≤ tb (s + i) ∧ tb (s + i) ≤ 122) → (∀ x ∈ w, 97 ≤ x ∧ x ≤ 122) → hW w ≤ 36028797018963967 → (hN tb s n = hW w ↔ isWr tb s w n)
  | [], n, h, _, _ => by
    show hN tb s n = 0 ↔ n = 0
    cases n with
    | zero => exact ⟨fun _ => rfl, fun _ => rfl⟩
    | succ k => have := hN_pos tb s k h; exact ⟨fun q => by omega, fun q => by omega⟩
  | x :: t, n, h, hx, hc => by
    have hx1 := hx x List.mem_cons_self
    have hc2 : 32 * hW t + (x - 96) ≤ 36028797018963967 := hc
    cases n with
    | zero =>
      show 0 = 32 * hW t + (x - 96) ↔ ∃ m, 0 = m + 1 ∧ _
      exact ⟨fun q => by omega, fun ⟨m, q, _⟩ => by omega⟩
    | succ k =>
      have h1 := h k (by omega)
      have ih := hN_iff tb s t k (fun i hi => h i (by omega)) (fun y hy => hx y (List.mem_cons_of_mem _ hy)) (by omega)
      show (if 36028797018963967 < hN tb s k then hN tb s k else 32 * hN tb s k + (tb (s + k) - 96)) = 32 * hW t + (x - 96) ↔ ∃ m, k + 1 = m + 1 ∧ tb (s + m) = x ∧ isWr tb s t m
      constructor
      · intro q
        split at q
        · omega
        · exact ⟨k, rfl, by omega, ih.mp (by omega)⟩
      · rintro ⟨m, e, e1, e2⟩
        obtain rfl : k = m := by omega
        have e3 := ih.mpr e2
        rw [if_neg (by omega), e3, e1]
/-- the words, their last letter first -/
def wGuest : List Nat := [116, 115, 101, 117, 103]
def wEnemy : List Nat := [121, 109, 101, 110, 101]
def wSinger : List Nat := [114, 101, 103, 110, 105, 115]
def wLate : List Nat := [101, 116, 97, 108]
def wDiva : List Nat := [97, 118, 105, 100]
def wRival : List Nat := [108, 97, 118, 105, 114]
def wScore : List Nat := [101, 114, 111, 99, 115]
def wBell : List Nat := [108, 108, 101, 98]
def wQuick : List Nat := [107, 99, 105, 117, 113]
def kWord (k : Nat) : List Nat := if k = 0 then wGuest else if k = 1 then wEnemy else if k = 2 then wSinger else if k = 3 then wLate else if k = 4 then wDiva else wRival
/-- two different words don't stand at one place -/
theorem isWr_one {tb : Row} {s : Nat} : ∀ {v w : List Nat} {n : Nat}, isWr tb s v n → isWr tb s w n → v = w
  | [], [], _, _, _ => rfl
  | [], _ :: _, n, h1, ⟨m, h2, _⟩ => by have h1 : n = 0 := h1; omega
  | _ :: _, [], n, ⟨m, h2, _⟩, h1 => by have h1 : n = 0 := h1; omega
  | x :: t, y :: r, n, ⟨m, a1, a2, a3⟩, ⟨k, b1, b2, b3⟩ => by
    obtain rfl : m = k := by omega
    rw [← a2, ← b2, isWr_one a3 b3]
def adm (f : Row) (k w q : Nat) : Row := va_up (va_up (va_up (va_up (va_up (va_up f 1 (f 1 + 1)) (11 + 5 * f 1 + 0) k) (11 + 5 * f 1 + 1) w) (11 + 5 * f 1 + 2) q) (11 + 5 * f 1 + 3) 0) (11 + 5 * f 1 + 4) 0
/-- two numbers behind s: the one of which number becomes what -/
def Two (tb : Row) (tn : Nat) (f : Row) (base h1 h2 s : Nat) (ok : Prop) (f2 : Row) (s2 : Nat) : Prop :=
  (¬ nOk tb tn 0 h1 (nx tb tn s) ∧ ¬ ok ∧ s2 = nx tb tn s) ∨
  (nOk tb tn 0 h1 (nx tb tn s) ∧ ¬ nOk tb tn 0 h2 (nx tb tn (nx tb tn s)) ∧ ¬ ok ∧ s2 = nx tb tn (nx tb tn s)) ∨
  (nOk tb tn 0 h1 (nx tb tn s) ∧ nOk tb tn 0 h2 (nx tb tn (nx tb tn s)) ∧ ok ∧ f2 = va_up f (base + val tb tn (nx tb tn s)) (val tb tn (nx tb tn (nx tb tn s))) ∧ s2 = nx tb tn (nx tb tn (nx tb tn s)))
def Per (tb : Row) (tn : Nat) (f : Row) (k s : Nat) (ok : Prop) (f2 : Row) (s2 : Nat) : Prop :=
  (8 ≤ f 1 ∧ ¬ ok ∧ s2 = s) ∨
  (f 1 < 8 ∧ ¬ nOk tb tn 0 11 (nx tb tn s) ∧ ¬ ok ∧ s2 = nx tb tn s) ∨
  (f 1 < 8 ∧ nOk tb tn 0 11 (nx tb tn s) ∧ ¬ isW tb tn wQuick (nx tb tn (nx tb tn s)) ∧ ok ∧ f2 = adm f k (val tb tn (nx tb tn s)) 1 ∧ s2 = nx tb tn (nx tb tn s)) ∨
  (f 1 < 8 ∧ nOk tb tn 0 11 (nx tb tn s) ∧ isW tb tn wQuick (nx tb tn (nx tb tn s)) ∧ ¬ nOk tb tn 1 4 (nx tb tn (nx tb tn (nx tb tn s))) ∧ ¬ ok ∧ s2 = nx tb tn (nx tb tn (nx tb tn s))) ∨
  (f 1 < 8 ∧ nOk tb tn 0 11 (nx tb tn s) ∧ isW tb tn wQuick (nx tb tn (nx tb tn s)) ∧ nOk tb tn 1 4 (nx tb tn (nx tb tn (nx tb tn s))) ∧ ok ∧ f2 = adm f k (val tb tn (nx tb tn s)) (val tb tn (nx tb tn (nx tb tn (nx tb tn s)))) ∧ s2 = nx tb tn (nx tb tn (nx tb tn (nx tb tn s))))
/-- an item at s: whether it is one, the row behind it, the next token (or the one at fault) -/
def Item (tb : Row) (tn : Nat) (f : Row) (s : Nat) (ok : Prop) (f2 : Row) (s2 : Nat) : Prop :=
  (∃ k, k ≤ 5 ∧ isW tb tn (kWord k) s ∧ Per tb tn f k s ok f2 s2) ∨
  (isW tb tn wScore s ∧ Two tb tn f 2 5 11 s ok f2 s2) ∨
  (isW tb tn wBell s ∧ Two tb tn f 8 2 47 s ok f2 s2) ∨
  ((∀ k, k ≤ 5 → ¬ isW tb tn (kWord k) s) ∧ ¬ isW tb tn wScore s ∧ ¬ isW tb tn wBell s ∧ ¬ ok ∧ s2 = s)
/-- items from s on, the it-th first: what is answered, and the row then (f0: the row before all of them) -/
def Par (tb : Row) (tn : Nat) (f0 : Row) : Nat → Row → Nat → Nat → Int32 → Row → Prop
  | 0, _, _, _, _, _ => False
  | n + 1, f, s, it, r, f2 => ∃ (ok : Prop) (f1 : Row) (s1 : Nat), Item tb tn f s ok f1 s1 ∧ ((¬ ok ∧ r = -1 - nI s1 ∧ f2 = f0) ∨ (ok ∧ tn ≤ s1 ∧ r = nI it ∧ f2 = f1) ∨ (ok ∧ s1 < tn ∧ tb s1 ≠ 59 ∧ r = -1 - nI s1 ∧ f2 = f0) ∨ (ok ∧ s1 < tn ∧ tb s1 = 59 ∧ Par tb tn f0 n f1 (nx tb tn s1) (it + 1) r f2))
def P_interval (f tb : Row) (tn : Nat) (r : Int32) (f2 : Row) : Prop := ∃ n, Par tb tn f n f (tkS tb tn 0) 1 r f2
theorem adm_add (f : Row) (k w : Nat) : adm f k w 1 = addF f k w := rfl
theorem adm_quick (f : Row) (k w q : Nat) : va_up (addF f k w) (11 + 5 * f 1 + 2) q = adm f k w q := funext fun i => by
  unfold addF adm va_up
  by_cases h4 : i = 11 + 5 * f 1 + 4
  · simp [h4]
  · by_cases h3 : i = 11 + 5 * f 1 + 3
    · simp [h3]
    · by_cases h2 : i = 11 + 5 * f 1 + 2
      · simp [h2]
      · simp [h2, h3, h4]
theorem Inv_adm {f : Row} (h : Inv f) {k w q : Nat} (h8 : f 1 < 8) (hk : k ≤ 5) (hw : w ≤ 11) (hq : q ≤ 4) : Inv (adm f k w q) := by
  have h0 : Inv (va_up f 1 (f 1 + 1)) := by
    refine ⟨by rw [va_up_n _ _ (by omega)]; exact h.1, by rw [va_up_s]; omega, fun z hz => ?_, fun z hz => ?_, fun z hz => ?_⟩
    · have := h.2.2.1 z hz; unfold sc at this ⊢; rwa [va_up_n _ _ (by omega)]
    · have := h.2.2.2.1 z hz; unfold be at this ⊢; rwa [va_up_n _ _ (by omega)]
    · have := h.2.2.2.2 z hz; simpa only [its_lo (show 1 < 11 by omega)] using this
  exact Inv_set (w := 4) (Inv_set (w := 3) (Inv_set (w := 2) (Inv_set (w := 1) (Inv_set (w := 0) h0 (by omega) (by simpa [bnd] using hk)) (by omega) (by simpa [bnd] using hw)) (by omega) (by simpa [bnd] using hq)) (by omega) (by simp [bnd])) (by omega) (by simp [bnd])
theorem adm_0 (f : Row) (k w q : Nat) : adm f k w q 0 = f 0 := by unfold adm; simp only [up_lo (show 0 < 11 by omega)]; exact va_up_n _ _ (by omega)
theorem nx_ge {tb : Row} {tn s : Nat} : s ≤ nx tb tn s := Nat.le_trans tkE_ge tkS_ge
theorem Two_ge {tb : Row} {tn : Nat} {f : Row} {base h1 h2 s : Nat} {ok : Prop} {f2 : Row} {s2 : Nat} (h : Two tb tn f base h1 h2 s ok f2 s2) : s ≤ s2 := by
  have a1 := nx_ge (tb := tb) (tn := tn) (s := s)
  have a2 := nx_ge (tb := tb) (tn := tn) (s := nx tb tn s)
  have a3 := nx_ge (tb := tb) (tn := tn) (s := nx tb tn (nx tb tn s))
  rcases h with ⟨_, _, rfl⟩ | ⟨_, _, _, rfl⟩ | ⟨_, _, _, _, rfl⟩ <;> omega
theorem Item_ge {tb : Row} {tn : Nat} {f : Row} {s : Nat} {ok : Prop} {f2 : Row} {s2 : Nat} (h : Item tb tn f s ok f2 s2) : s ≤ s2 := by
  have a1 := nx_ge (tb := tb) (tn := tn) (s := s)
  have a2 := nx_ge (tb := tb) (tn := tn) (s := nx tb tn s)
  have a3 := nx_ge (tb := tb) (tn := tn) (s := nx tb tn (nx tb tn s))
  have a4 := nx_ge (tb := tb) (tn := tn) (s := nx tb tn (nx tb tn (nx tb tn s)))
  rcases h with ⟨k, _, _, h⟩ | ⟨_, h⟩ | ⟨_, h⟩ | ⟨_, _, _, _, rfl⟩
  · rcases h with ⟨_, _, rfl⟩ | ⟨_, _, _, rfl⟩ | ⟨_, _, _, _, _, rfl⟩ | ⟨_, _, _, _, _, rfl⟩ | ⟨_, _, _, _, _, _, rfl⟩ <;> omega
  · exact Two_ge h
  · exact Two_ge h
  · omega
theorem Two_inv {tb : Row} {tn : Nat} {f : Row} {base h1 h2 s : Nat} {ok : Prop} {f2 : Row} {s2 : Nat} (hI : Inv f) (hb : (base = 2 ∧ h1 = 5 ∧ h2 = 11) ∨ (base = 8 ∧ h1 = 2 ∧ h2 = 47)) (h : Two tb tn f base h1 h2 s ok f2 s2) (hok : ok) : Inv f2 ∧ f2 0 = f 0 := by
  rcases h with ⟨_, q, _⟩ | ⟨_, _, q, _⟩ | ⟨n1, n2, _, rfl, _⟩
  · exact absurd hok q
  · exact absurd hok q
  · have v1 := n1.2.2
    have v2 := n2.2.2
    rcases hb with ⟨rfl, rfl, rfl⟩ | ⟨rfl, rfl, rfl⟩
    · exact ⟨Inv_sc hI (by omega) v2, va_up_n _ _ (by omega)⟩
    · exact ⟨Inv_be hI (by omega) v2, va_up_n _ _ (by omega)⟩
theorem Item_inv {tb : Row} {tn : Nat} {f : Row} {s : Nat} {ok : Prop} {f2 : Row} {s2 : Nat} (hI : Inv f) (h : Item tb tn f s ok f2 s2) (hok : ok) : Inv f2 ∧ f2 0 = f 0 := by
  rcases h with ⟨k, hk, _, h⟩ | ⟨_, h⟩ | ⟨_, h⟩ | ⟨_, _, _, q, _⟩
  · rcases h with ⟨_, q, _⟩ | ⟨_, _, q, _⟩ | ⟨h8, n1, _, _, rfl, _⟩ | ⟨_, _, _, _, q, _⟩ | ⟨h8, n1, _, n3, _, rfl, _⟩
    · exact absurd hok q
    · exact absurd hok q
    · exact ⟨Inv_adm hI h8 hk n1.2.2 (by omega), adm_0 _ _ _ _⟩
    · exact absurd hok q
    · exact ⟨Inv_adm hI h8 hk n1.2.2 n3.2.2, adm_0 _ _ _ _⟩
  · exact Two_inv hI (Or.inl ⟨rfl, rfl, rfl⟩) h hok
  · exact Two_inv hI (Or.inr ⟨rfl, rfl, rfl⟩) h hok
  · exact absurd hok q
/-- what is left behind an item -/
def Tl (tb : Row) (tn : Nat) (f0 : Row) (n : Nat) (ok : Prop) (f1 : Row) (s1 it : Nat) (r : Int32) (f2 : Row) : Prop := (¬ ok ∧ r = -1 - nI s1 ∧ f2 = f0) ∨ (ok ∧ tn ≤ s1 ∧ r = nI it ∧ f2 = f1) ∨ (ok ∧ s1 < tn ∧ tb s1 ≠ 59 ∧ r = -1 - nI s1 ∧ f2 = f0) ∨ (ok ∧ s1 < tn ∧ tb s1 = 59 ∧ Par tb tn f0 n f1 (nx tb tn s1) (it + 1) r f2)
def Cont (tb : Row) (tn : Nat) (f0 : Row) (ok : Prop) (f1 : Row) (s1 it : Nat) : Prop := ∀ (n : Nat) (r : Int32) (f2 : Row), Tl tb tn f0 n ok f1 s1 it r f2 → P_interval f0 tb tn r f2
theorem Cont_0 {tb : Row} {tn : Nat} {f0 : Row} {ok : Prop} {f1 : Row} {s1 : Nat} (h : Item tb tn f0 (tkS tb tn 0) ok f1 s1) : Cont tb tn f0 ok f1 s1 1 := fun n _ _ t => ⟨n + 1, ok, f1, s1, h, t⟩
theorem Cont_s {tb : Row} {tn : Nat} {f0 : Row} {ok ok2 : Prop} {f1 f2 : Row} {s1 s2 it : Nat} (hc : Cont tb tn f0 ok f1 s1 it) (hok : ok) (h1 : s1 < tn) (h2 : tb s1 = 59) (h : Item tb tn f1 (nx tb tn s1) ok2 f2 s2) : Cont tb tn f0 ok2 f2 s2 (it + 1) := fun n r f3 t => hc (n + 1) r f3 (Or.inr (Or.inr (Or.inr ⟨hok, h1, h2, ok2, f2, s2, h, t⟩)))
