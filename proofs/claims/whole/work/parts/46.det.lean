/-! both sides' predicates tell one answer and one state; what holds of every state is kept -/
section DET
variable {f st tb : Row} {tn : Nat} {nu : Nat → Int64} {bi si : Row} {kp : Nat} {g : Row} {x y z w n r1 r2 : Int32} {f1 f2 s1 s2 : Row}
theorem dt_score (h1 : P_score f st x y r1 f1 s1) (h2 : P_score f st x y r2 f2 s2) : r1 = r2 ∧ f1 = f2 ∧ s1 = s2 := by
  rcases h1 with ⟨c, rfl, rfl, rfl⟩ | ⟨c, rfl, rfl, rfl⟩ <;> rcases h2 with ⟨d, rfl, rfl, rfl⟩ | ⟨d, rfl, rfl, rfl⟩ <;> first | exact ⟨rfl, rfl, rfl⟩ | exact absurd c d | exact absurd d c
theorem dt_bell (h1 : P_bell f st x y r1 f1 s1) (h2 : P_bell f st x y r2 f2 s2) : r1 = r2 ∧ f1 = f2 ∧ s1 = s2 := by
  rcases h1 with ⟨c, rfl, rfl, rfl⟩ | ⟨c, rfl, rfl, rfl⟩ <;> rcases h2 with ⟨d, rfl, rfl, rfl⟩ | ⟨d, rfl, rfl, rfl⟩ <;> first | exact ⟨rfl, rfl, rfl⟩ | exact absurd c d | exact absurd d c
theorem dt_now (h1 : P_now f st x r1 s1) (h2 : P_now f st x r2 s2) : r1 = r2 ∧ s1 = s2 := by
  rcases h1 with ⟨c, rfl, rfl⟩ | ⟨c, rfl, rfl⟩ <;> rcases h2 with ⟨d, rfl, rfl⟩ | ⟨d, rfl, rfl⟩ <;> first | exact ⟨rfl, rfl⟩ | exact absurd c d | exact absurd d c
theorem dt_who (h1 : P_who f st x r1 s1) (h2 : P_who f st x r2 s2) : r1 = r2 ∧ s1 = s2 := by
  rcases h1 with ⟨c, rfl, rfl⟩ | ⟨c, rfl, rfl⟩ <;> rcases h2 with ⟨d, rfl, rfl⟩ | ⟨d, rfl, rfl⟩ <;> first | exact ⟨rfl, rfl⟩ | exact absurd c d | exact absurd d c
theorem dt_person (h1 : P_person f st x y r1 f1 s1) (h2 : P_person f st x y r2 f2 s2) : r1 = r2 ∧ f1 = f2 ∧ s1 = s2 := by
  rcases h1 with ⟨c, ⟨c2, rfl, rfl, rfl⟩ | ⟨c2, rfl, rfl, rfl⟩⟩ | ⟨c, rfl, rfl, rfl⟩ <;> rcases h2 with ⟨d, ⟨d2, rfl, rfl, rfl⟩ | ⟨d2, rfl, rfl, rfl⟩⟩ | ⟨d, rfl, rfl, rfl⟩ <;> first | exact ⟨rfl, rfl, rfl⟩ | exact absurd c d | exact absurd d c | exact absurd c2 d2 | exact absurd d2 c2
theorem dt_of (h1 : P_of f st x y r1 s1) (h2 : P_of f st x y r2 s2) : r1 = r2 ∧ s1 = s2 := by
  rcases h1 with ⟨c, rfl, rfl⟩ | ⟨c, rfl, rfl⟩ <;> rcases h2 with ⟨d, rfl, rfl⟩ | ⟨d, rfl, rfl⟩ <;> first | exact ⟨rfl, rfl⟩ | exact absurd c d | exact absurd d c
theorem dt_set (h1 : P_set f st x y z r1 f1 s1) (h2 : P_set f st x y z r2 f2 s2) : r1 = r2 ∧ f1 = f2 ∧ s1 = s2 := by
  rcases h1 with ⟨c, rfl, rfl, rfl⟩ | ⟨c, rfl, rfl, rfl⟩ <;> rcases h2 with ⟨d, rfl, rfl, rfl⟩ | ⟨d, rfl, rfl, rfl⟩ <;> first | exact ⟨rfl, rfl, rfl⟩ | exact absurd c d | exact absurd d c
theorem dt_turn (h1 : P_turn f st x y r1 f1 s1) (h2 : P_turn f st x y r2 f2 s2) : r1 = r2 ∧ f1 = f2 ∧ s1 = s2 := by
  rcases h1 with ⟨c, rfl, rfl, rfl⟩ | ⟨c, rfl, rfl, rfl⟩ <;> rcases h2 with ⟨d, rfl, rfl, rfl⟩ | ⟨d, rfl, rfl, rfl⟩ <;> first | exact ⟨rfl, rfl, rfl⟩ | exact absurd c d | exact absurd d c
theorem dt_as (h1 : P_as f st x y r1 s1) (h2 : P_as f st x y r2 s2) : r1 = r2 ∧ s1 = s2 := by
  rcases h1 with ⟨c, ⟨c2, rfl, rfl⟩ | ⟨c2, rfl, rfl⟩⟩ | ⟨c, rfl, rfl⟩ <;> rcases h2 with ⟨d, ⟨d2, rfl, rfl⟩ | ⟨d2, rfl, rfl⟩⟩ | ⟨d, rfl, rfl⟩ <;> first | exact ⟨rfl, rfl⟩ | exact absurd c d | exact absurd d c | exact absurd c2 d2 | exact absurd d2 c2
theorem dt_minutes (h1 : P_minutes f st x r1 f1 s1) (h2 : P_minutes f st x r2 f2 s2) : r1 = r2 ∧ f1 = f2 ∧ s1 = s2 := by
  rcases h1 with ⟨c, ⟨c2, rfl, rfl, rfl⟩ | ⟨c2, rfl, rfl, rfl⟩⟩ | ⟨c, rfl, rfl, rfl⟩ <;> rcases h2 with ⟨d, ⟨d2, rfl, rfl, rfl⟩ | ⟨d2, rfl, rfl, rfl⟩⟩ | ⟨d, rfl, rfl, rfl⟩ <;> first | exact ⟨rfl, rfl, rfl⟩ | exact absurd c d | exact absurd d c | (exfalso; omega)
theorem dt_on (h1 : P_on f st x y z r1 s1) (h2 : P_on f st x y z r2 s2) : r1 = r2 ∧ s1 = s2 := by
  rcases h1 with ⟨c, rfl, rfl⟩ | ⟨c, rfl, rfl⟩ <;> rcases h2 with ⟨d, rfl, rfl⟩ | ⟨d, rfl, rfl⟩ <;> first | exact ⟨rfl, rfl⟩ | exact absurd c d | exact absurd d c
theorem dt_harmony (h1 : P_harmony f st x r1 s1) (h2 : P_harmony f st x r2 s2) : r1 = r2 ∧ s1 = s2 := by
  rcases h1 with ⟨c, rfl, rfl⟩ | ⟨c, rfl, rfl⟩ <;> rcases h2 with ⟨d, rfl, rfl⟩ | ⟨d, rfl, rfl⟩ <;> first | exact ⟨rfl, rfl⟩ | exact absurd c d | exact absurd d c
theorem dt_tells {c : Nat → Prop} (h1 : tells c st r1 s1) (h2 : tells c st r2 s2) : r1 = r2 ∧ s1 = s2 := by
  obtain ⟨k, hk, h1⟩ := h1
  obtain ⟨j, hj, h2⟩ := h2
  obtain rfl := Fst_one hk hj
  rcases h1 with ⟨c, rfl, rfl⟩ | ⟨c, rfl, rfl⟩ <;> rcases h2 with ⟨d, rfl, rfl⟩ | ⟨d, rfl, rfl⟩ <;> first | exact ⟨rfl, rfl⟩ | (exfalso; omega)
theorem dt_comes (h1 : P_comes f st x y r1 s1) (h2 : P_comes f st x y r2 s2) : r1 = r2 ∧ s1 = s2 := by
  rcases h1 with ⟨c, h1⟩ | ⟨c, rfl, rfl⟩ <;> rcases h2 with ⟨d, h2⟩ | ⟨d, rfl, rfl⟩ <;> first | exact ⟨rfl, rfl⟩ | exact absurd c d | exact absurd d c | exact dt_tells h1 h2
theorem dt_plays (h1 : P_plays f st x r1 s1) (h2 : P_plays f st x r2 s2) : r1 = r2 ∧ s1 = s2 := by
  rcases h1 with ⟨c, h1⟩ | ⟨c, rfl, rfl⟩ <;> rcases h2 with ⟨d, h2⟩ | ⟨d, rfl, rfl⟩ <;> first | exact ⟨rfl, rfl⟩ | exact absurd c d | exact absurd d c | exact dt_tells h1 h2
theorem dt_meet (h1 : P_meet f st x y r1 s1) (h2 : P_meet f st x y r2 s2) : r1 = r2 ∧ s1 = s2 := by
  rcases h1 with ⟨c, h1⟩ | ⟨c, rfl, rfl⟩ <;> rcases h2 with ⟨d, h2⟩ | ⟨d, rfl, rfl⟩ <;> first | exact ⟨rfl, rfl⟩ | exact absurd c d | exact absurd d c | exact dt_tells h1 h2
theorem dt_begin (h1 : P_begin f st x y r1 s1) (h2 : P_begin f st x y r2 s2) : r1 = r2 ∧ s1 = s2 := by
  rcases h1 with ⟨c, rfl, rfl⟩ | ⟨c, rfl, rfl⟩ <;> rcases h2 with ⟨d, rfl, rfl⟩ | ⟨d, rfl, rfl⟩ <;> first | exact ⟨rfl, rfl⟩ | exact absurd c d | exact absurd d c
theorem dt_kind (h1 : P_kind f st x y r1 s1) (h2 : P_kind f st x y r2 s2) : r1 = r2 ∧ s1 = s2 := by
  rcases h1 with ⟨c, rfl, rfl⟩ | ⟨c, rfl, rfl⟩ <;> rcases h2 with ⟨d, rfl, rfl⟩ | ⟨d, rfl, rfl⟩ <;> first | exact ⟨rfl, rfl⟩ | exact absurd c d | exact absurd d c
theorem dt_quick (h1 : P_quick f st x y z r1 s1) (h2 : P_quick f st x y z r2 s2) : r1 = r2 ∧ s1 = s2 := by
  rcases h1 with ⟨c, ⟨k, k1, k2, k3, k4, rfl, rfl⟩ | ⟨k3, rfl, rfl⟩⟩ | ⟨c, rfl, rfl⟩ <;> rcases h2 with ⟨d, ⟨j, j1, j2, j3, j4, rfl, rfl⟩ | ⟨j3, rfl, rfl⟩⟩ | ⟨d, rfl, rfl⟩
  · have e : k = j := by
      rcases Nat.lt_trichotomy k j with q | q | q
      · exact absurd k4 (j3 k k1 q)
      · exact q
      · exact absurd j4 (k3 j j1 q)
    rw [e]; exact ⟨rfl, rfl⟩
  · exact absurd k4 (j3 k k1 k2)
  · exact absurd c d
  · exact absurd j4 (k3 j j1 j2)
  · exact ⟨rfl, rfl⟩
  · exact absurd c d
  · exact absurd d c
  · exact absurd d c
  · exact ⟨rfl, rfl⟩
theorem dt_compose (h1 : P_compose f st x y r1 s1) (h2 : P_compose f st x y r2 s2) : r1 = r2 ∧ s1 = s2 := by
  rcases h1 with ⟨c, rfl, rfl⟩ | ⟨c, rfl, rfl⟩ <;> rcases h2 with ⟨d, rfl, rfl⟩ | ⟨d, rfl, rfl⟩ <;> first | exact ⟨rfl, rfl⟩ | exact absurd c d | exact absurd d c
theorem dt_deceive (h1 : P_deceive f st x y r1 s1) (h2 : P_deceive f st x y r2 s2) : r1 = r2 ∧ s1 = s2 := by
  rcases h1 with ⟨c, rfl, rfl⟩ | ⟨c, rfl, rfl⟩ <;> rcases h2 with ⟨d, rfl, rfl⟩ | ⟨d, rfl, rfl⟩ <;> first | exact ⟨rfl, rfl⟩ | exact absurd c d | exact absurd d c
theorem dt_worst (h1 : P_worst f st x r1 s1) (h2 : P_worst f st x r2 s2) : r1 = r2 ∧ s1 = s2 := by
  rcases h1 with ⟨c, ⟨c2, rfl, rfl⟩ | ⟨c2, rfl, rfl⟩⟩ | ⟨c, rfl, rfl⟩ <;> rcases h2 with ⟨d, ⟨d2, rfl, rfl⟩ | ⟨d2, rfl, rfl⟩⟩ | ⟨d, rfl, rfl⟩ <;> first | exact ⟨rfl, rfl⟩ | exact absurd c d | exact absurd d c | exact absurd c2 d2 | exact absurd d2 c2
theorem dt_feed {t1 t2 : Row} {n1 n2 : Nat} (h1 : P_feed tb tn st x y r1 t1 n1 s1) (h2 : P_feed tb tn st x y r2 t2 n2 s2) : r1 = r2 ∧ t1 = t2 ∧ n1 = n2 ∧ s1 = s2 := by
  rcases h1 with ⟨c, ⟨c2, rfl, rfl, rfl, rfl⟩ | ⟨c2, rfl, rfl, rfl, rfl⟩⟩ | ⟨c, rfl, rfl, rfl, rfl⟩ <;> rcases h2 with ⟨d, ⟨d2, rfl, rfl, rfl, rfl⟩ | ⟨d2, rfl, rfl, rfl, rfl⟩⟩ | ⟨d, rfl, rfl, rfl, rfl⟩ <;> first | exact ⟨rfl, rfl, rfl, rfl⟩ | exact absurd c d | exact absurd d c | (exfalso; omega)
theorem dt_sheet {b1 b2 z1 z2 : Row} {n1 n2 : Nat → Int64} (h1 : P_sheet bi si nu st x y z r1 b1 z1 n1 s1) (h2 : P_sheet bi si nu st x y z r2 b2 z2 n2 s2) : r1 = r2 ∧ b1 = b2 ∧ z1 = z2 ∧ n1 = n2 ∧ s1 = s2 := by
  rcases h1 with ⟨c, ⟨c2, rfl, rfl, rfl, rfl, rfl⟩ | ⟨c2, rfl, rfl, rfl, rfl, rfl⟩ | ⟨c2, rfl, rfl, rfl, rfl, rfl⟩⟩ | ⟨c, rfl, rfl, rfl, rfl, rfl⟩ <;> rcases h2 with ⟨d, ⟨d2, rfl, rfl, rfl, rfl, rfl⟩ | ⟨d2, rfl, rfl, rfl, rfl, rfl⟩ | ⟨d2, rfl, rfl, rfl, rfl, rfl⟩⟩ | ⟨d, rfl, rfl, rfl, rfl, rfl⟩ <;> first | exact ⟨rfl, rfl, rfl, rfl, rfl⟩ | exact absurd c d | exact absurd d c | (exfalso; unfold inR at *; omega)
theorem dt_write {v q1 q2 : Int64} {n1 n2 : Nat → Int64} (h1 : P_write bi si nu st x y v q1 n1 s1) (h2 : P_write bi si nu st x y v q2 n2 s2) : q1 = q2 ∧ n1 = n2 ∧ s1 = s2 := by
  rcases h1 with ⟨c, rfl, rfl, rfl⟩ | ⟨c, rfl, rfl, rfl⟩ | ⟨c, ⟨c2, rfl, rfl, rfl⟩ | ⟨c2, rfl, rfl, rfl⟩⟩ <;> rcases h2 with ⟨d, rfl, rfl, rfl⟩ | ⟨d, rfl, rfl, rfl⟩ | ⟨d, ⟨d2, rfl, rfl, rfl⟩ | ⟨d2, rfl, rfl, rfl⟩⟩ <;> first | exact ⟨rfl, rfl, rfl⟩ | exact absurd c.1 d | exact absurd d.1 c | exact absurd c.2 d.2 | exact absurd d.2 c.2 | exact absurd c2 d2 | exact absurd d2 c2
theorem dt_copy {n1 n2 : Nat → Int64} (h1 : P_copy bi si nu st x y z w n r1 n1 s1) (h2 : P_copy bi si nu st x y z w n r2 n2 s2) : r1 = r2 ∧ n1 = n2 ∧ s1 = s2 := by
  rcases h1 with ⟨c, rfl, rfl, rfl⟩ | ⟨c, ⟨c2, rfl, rfl, rfl⟩ | ⟨c2, ⟨c3, rfl, rfl, rfl⟩ | ⟨c3, ⟨c4, rfl, rfl, rfl⟩ | ⟨c4, rfl, rfl, rfl⟩⟩⟩⟩ <;> rcases h2 with ⟨d, rfl, rfl, rfl⟩ | ⟨d, ⟨d2, rfl, rfl, rfl⟩ | ⟨d2, ⟨d3, rfl, rfl, rfl⟩ | ⟨d3, ⟨d4, rfl, rfl, rfl⟩ | ⟨d4, rfl, rfl, rfl⟩⟩⟩⟩ <;> first | exact ⟨rfl, rfl, rfl⟩ | exact absurd c d | exact absurd d c | exact absurd c2 d2 | exact absurd d2 c2 | exact absurd c3 d3 | exact absurd d3 c3 | exact absurd c4 d4 | exact absurd d4 c4
theorem dt_lays (h1 : P_lays f bi si nu st x r1 f1 s1) (h2 : P_lays f bi si nu st x r2 f2 s2) : r1 = r2 ∧ f1 = f2 ∧ s1 = s2 := by
  rcases h1 with ⟨c, rfl, rfl, rfl⟩ | ⟨c, rfl, rfl, rfl⟩ | ⟨c, rfl, rfl, rfl⟩ <;> rcases h2 with ⟨d, rfl, rfl, rfl⟩ | ⟨d, rfl, rfl, rfl⟩ | ⟨d, rfl, rfl, rfl⟩ <;> first | exact ⟨rfl, rfl, rfl⟩ | exact absurd c.1 d | exact absurd d.1 c | exact absurd c.2 d.2 | exact absurd d.2 c.2
theorem dt_book {n1 n2 : Nat → Int64} (h1 : P_book f bi si nu st x y r1 n1 s1) (h2 : P_book f bi si nu st x y r2 n2 s2) : r1 = r2 ∧ n1 = n2 ∧ s1 = s2 := by
  rcases h1 with ⟨c, rfl, rfl, rfl⟩ | ⟨c, rfl, rfl, rfl⟩ | ⟨c, ⟨c2, rfl, rfl, rfl⟩ | ⟨c2, rfl, rfl, rfl⟩⟩ <;> rcases h2 with ⟨d, rfl, rfl, rfl⟩ | ⟨d, rfl, rfl, rfl⟩ | ⟨d, ⟨d2, rfl, rfl, rfl⟩ | ⟨d2, rfl, rfl, rfl⟩⟩ <;> first | exact ⟨rfl, rfl, rfl⟩ | exact absurd c.1 d | exact absurd d.1 c | exact absurd c.2 d.2 | exact absurd d.2 c.2 | exact absurd c2 d2 | exact absurd d2 c2
theorem dt_read (h1 : P_read f bi si nu st x y r1 s1) (h2 : P_read f bi si nu st x y r2 s2) : r1 = r2 ∧ s1 = s2 := by
  rcases h1 with ⟨c, rfl, rfl⟩ | ⟨c, rfl, rfl⟩ | ⟨c, ⟨c2, rfl, rfl⟩ | ⟨c2, rfl, rfl⟩⟩ <;> rcases h2 with ⟨d, rfl, rfl⟩ | ⟨d, rfl, rfl⟩ | ⟨d, ⟨d2, rfl, rfl⟩ | ⟨d2, rfl, rfl⟩⟩ <;> first | exact ⟨rfl, rfl⟩ | exact absurd c.1 d | exact absurd d.1 c | exact absurd c.2 d.2 | exact absurd d.2 c.2 | exact absurd c2 d2 | exact absurd d2 c2
theorem dt_undo (h1 : P_undo f g kp st r1 f1 s1) (h2 : P_undo f g kp st r2 f2 s2) : r1 = r2 ∧ f1 = f2 ∧ s1 = s2 := by
  rcases h1 with ⟨c, rfl, rfl, rfl⟩ | ⟨c, rfl, rfl, rfl⟩ <;> rcases h2 with ⟨d, rfl, rfl, rfl⟩ | ⟨d, rfl, rfl, rfl⟩ <;> first | exact ⟨rfl, rfl, rfl⟩ | exact absurd c d | exact absurd d c
theorem dt_count (h1 : P_count f tn st x r1 s1) (h2 : P_count f tn st x r2 s2) : r1 = r2 ∧ s1 = s2 := by
  rcases h1 with ⟨c, rfl, rfl⟩ | ⟨c, rfl, rfl⟩ <;> rcases h2 with ⟨d, rfl, rfl⟩ | ⟨d, rfl, rfl⟩ <;> first | exact ⟨rfl, rfl⟩ | exact absurd c d | exact absurd d c
theorem dt_status (h1 : P_status st x r1 s1) (h2 : P_status st x r2 s2) : r1 = r2 ∧ s1 = s2 := by
  rcases h1 with ⟨c, rfl, rfl⟩ | ⟨c, rfl, rfl⟩ <;> rcases h2 with ⟨d, rfl, rfl⟩ | ⟨d, rfl, rfl⟩ <;> first | exact ⟨rfl, rfl⟩ | exact absurd c d | exact absurd d c
/-- items -/
def Sm (ok ok2 : Prop) (f1 f2 : Row) (s1 s2 : Nat) : Prop := (ok ↔ ok2) ∧ s1 = s2 ∧ (ok → f1 = f2)
theorem Sm_n {ok ok2 : Prop} {f1 f2 : Row} {s1 s2 : Nat} (h1 : ¬ ok) (h2 : ¬ ok2) (e : s1 = s2) : Sm ok ok2 f1 f2 s1 s2 := ⟨⟨fun q => absurd q h1, fun q => absurd q h2⟩, e, fun q => absurd q h1⟩
theorem Sm_y {ok ok2 : Prop} {f1 f2 : Row} {s1 s2 : Nat} (h1 : ok) (h2 : ok2) (e : s1 = s2) (ef : f1 = f2) : Sm ok ok2 f1 f2 s1 s2 := ⟨⟨fun _ => h2, fun _ => h1⟩, e, fun _ => ef⟩
theorem dt_two {base h1 h2 s : Nat} {ok ok2 : Prop} {f1 f2 : Row} {s1 s2 : Nat} (a : Two tb tn f base h1 h2 s ok f1 s1) (b : Two tb tn f base h1 h2 s ok2 f2 s2) : Sm ok ok2 f1 f2 s1 s2 := by
  rcases a with ⟨a1, a2, rfl⟩ | ⟨a1, a2, a3, rfl⟩ | ⟨a1, a2, a3, rfl, rfl⟩ <;> rcases b with ⟨b1, b2, rfl⟩ | ⟨b1, b2, b3, rfl⟩ | ⟨b1, b2, b3, rfl, rfl⟩
  · exact Sm_n a2 b2 rfl
  · exact absurd b1 a1
  · exact absurd b1 a1
  · exact absurd a1 b1
  · exact Sm_n a3 b3 rfl
  · exact absurd b2 a2
  · exact absurd a1 b1
  · exact absurd a2 b2
  · exact Sm_y a3 b3 rfl rfl
theorem dt_per {k s : Nat} {ok ok2 : Prop} {f1 f2 : Row} {s1 s2 : Nat} (a : Per tb tn f k s ok f1 s1) (b : Per tb tn f k s ok2 f2 s2) : Sm ok ok2 f1 f2 s1 s2 := by
  rcases a with ⟨a1, a2, rfl⟩ | ⟨a1, a2, a3, rfl⟩ | ⟨a1, a2, a3, a4, rfl, rfl⟩ | ⟨a1, a2, a3, a4, a5, rfl⟩ | ⟨a1, a2, a3, a4, a5, rfl, rfl⟩ <;> rcases b with ⟨b1, b2, rfl⟩ | ⟨b1, b2, b3, rfl⟩ | ⟨b1, b2, b3, b4, rfl, rfl⟩ | ⟨b1, b2, b3, b4, b5, rfl⟩ | ⟨b1, b2, b3, b4, b5, rfl, rfl⟩ <;> first | exact Sm_n a2 b2 rfl | exact Sm_n a3 b3 rfl | exact Sm_n a5 b5 rfl | exact Sm_y a4 b4 rfl rfl | exact Sm_y a5 b5 rfl rfl | (exfalso; omega) | exact absurd a2 b2 | exact absurd b2 a2 | exact absurd a3 b3 | exact absurd b3 a3 | exact absurd a4 b4 | exact absurd b4 a4
theorem kW_one {tb : Row} {tn k j s : Nat} (hk : k ≤ 5) (hj : j ≤ 5) (h1 : isW tb tn (kWord k) s) (h2 : isW tb tn (kWord j) s) : k = j := by
  have e := isWr_one h1.2 h2.2
  have d : ∀ k : Fin 6, ∀ j : Fin 6, kWord k.1 = kWord j.1 → k = j := by decide
  exact congrArg Fin.val (d ⟨k, by omega⟩ ⟨j, by omega⟩ e)
theorem kW_sc {tb : Row} {tn k s : Nat} (hk : k ≤ 5) (h1 : isW tb tn (kWord k) s) : ¬ isW tb tn wScore s ∧ ¬ isW tb tn wBell s := by
  have d : ∀ k : Fin 6, ¬ kWord k.1 = wScore ∧ ¬ kWord k.1 = wBell := by decide
  exact ⟨fun h => (d ⟨k, by omega⟩).1 (isWr_one h1.2 h.2), fun h => (d ⟨k, by omega⟩).2 (isWr_one h1.2 h.2)⟩
theorem sc_be {tb : Row} {tn s : Nat} (h1 : isW tb tn wScore s) : ¬ isW tb tn wBell s := fun h => absurd (isWr_one h1.2 h.2) (by decide)
theorem dt_item {s : Nat} {ok ok2 : Prop} {f1 f2 : Row} {s1 s2 : Nat} (a : Item tb tn f s ok f1 s1) (b : Item tb tn f s ok2 f2 s2) : Sm ok ok2 f1 f2 s1 s2 := by
  rcases a with ⟨k, hk, a1, a2⟩ | ⟨a1, a2⟩ | ⟨a1, a2⟩ | ⟨a1, a2, a3, a4, rfl⟩ <;> rcases b with ⟨j, hj, b1, b2⟩ | ⟨b1, b2⟩ | ⟨b1, b2⟩ | ⟨b1, b2, b3, b4, rfl⟩
  · obtain rfl := kW_one hk hj a1 b1
    exact dt_per a2 b2
  · exact absurd b1 (kW_sc hk a1).1
  · exact absurd b1 (kW_sc hk a1).2
  · exact absurd a1 (b1 k hk)
  · exact absurd a1 (kW_sc hj b1).1
  · exact dt_two a2 b2
  · exact absurd b1 (sc_be a1)
  · exact absurd a1 b2
  · exact absurd a1 (kW_sc hj b1).2
  · exact absurd a1 (sc_be b1)
  · exact dt_two a2 b2
  · exact absurd a1 b3
  · exact absurd b1 (a1 j hj)
  · exact absurd b1 a2
  · exact absurd b1 a3
  · exact Sm_n a4 b4 rfl
theorem dt_par {f0 : Row} : ∀ {n m : Nat} {f : Row} {s it : Nat} {r1 r2 : Int32} {f1 f2 : Row}, Par tb tn f0 n f s it r1 f1 → Par tb tn f0 m f s it r2 f2 → r1 = r2 ∧ f1 = f2
  | 0, _, _, _, _, _, _, _, _, h, _ => h.elim
  | _ + 1, 0, _, _, _, _, _, _, _, _, h => h.elim
  | n + 1, m + 1, f, s, it, r1, r2, f1, f2, ⟨ok, g1, z1, a, a2⟩, ⟨ok2, g2, z2, b, b2⟩ => by
    obtain ⟨i1, i2, i3⟩ := dt_item a b
    subst i2
    rcases a2 with ⟨c, rfl, rfl⟩ | ⟨c, c1, rfl, rfl⟩ | ⟨c, c1, c2, rfl, rfl⟩ | ⟨c, c1, c2, c3⟩ <;> rcases b2 with ⟨d, rfl, rfl⟩ | ⟨d, d1, rfl, rfl⟩ | ⟨d, d1, d2, rfl, rfl⟩ | ⟨d, d1, d2, d3⟩
    · exact ⟨rfl, rfl⟩
    · exact absurd (i1.mpr d) c
    · exact absurd (i1.mpr d) c
    · exact absurd (i1.mpr d) c
    · exact absurd (i1.mp c) d
    · exact ⟨rfl, i3 c⟩
    · omega
    · omega
    · exact absurd (i1.mp c) d
    · omega
    · exact ⟨rfl, rfl⟩
    · exact absurd d2 c2
    · exact absurd (i1.mp c) d
    · omega
    · exact absurd c2 d2
    · obtain rfl := i3 c
      exact dt_par c3 d3
theorem dt_interval (h1 : P_interval f tb tn r1 f1) (h2 : P_interval f tb tn r2 f2) : r1 = r2 ∧ f1 = f2 := by
  obtain ⟨n, h1⟩ := h1
  obtain ⟨m, h2⟩ := h2
  exact dt_par h1 h2
/-- what holds of every state -/
def Ok (f tb : Row) (tn : Nat) (bi si : Row) (kp : Nat) (g : Row) : Prop := (Inv f ∧ f 0 ≤ 99999) ∧ ((∀ i, tb i < 256) ∧ tn ≤ 120) ∧ ShI bi si ∧ kp ≤ 1 ∧ (Inv g ∧ g 0 ≤ 99999)
theorem nt_le {x : Int32} {hi : Nat} (h : inR x 0 hi) : nt x ≤ hi := by
  obtain ⟨j, rfl, h1, h2⟩ := inR_nat h
  rw [nt_nI h2]
  omega
theorem nt_lt {x : Int32} {hi : Nat} (h : inR x 0 ((hi : Int) - 1)) : nt x < hi := by
  obtain ⟨j, rfl, h1, h2⟩ := inR_nat h
  rw [nt_nI h2]
  omega
theorem inR_0 {x : Int32} {hi : Int} (h : inR x 1 hi) : inR x 0 hi := ⟨by have := h.1; omega, h.2⟩
theorem iv_score (hI : Inv f ∧ f 0 ≤ 99999) (h : P_score f st x y r1 f1 s1) : Inv f1 ∧ f1 0 ≤ 99999 := by
  rcases h with ⟨⟨c1, c2⟩, -, rfl, -⟩ | ⟨-, -, rfl, -⟩
  · have h1 := nt_le (hi := 5) c1
    have h2 := nt_le (hi := 11) c2
    exact ⟨Inv_sc hI.1 (by omega) h2, by rw [va_up_n _ _ (by omega)]; exact hI.2⟩
  · exact hI
theorem iv_bell (hI : Inv f ∧ f 0 ≤ 99999) (h : P_bell f st x y r1 f1 s1) : Inv f1 ∧ f1 0 ≤ 99999 := by
  rcases h with ⟨⟨c1, c2⟩, -, rfl, -⟩ | ⟨-, -, rfl, -⟩
  · have h1 := nt_le (hi := 2) c1
    have h2 := nt_le (hi := 47) c2
    exact ⟨Inv_be hI.1 (by omega) h2, by rw [va_up_n _ _ (by omega)]; exact hI.2⟩
  · exact hI
theorem iv_person (hI : Inv f ∧ f 0 ≤ 99999) (h : P_person f st x y r1 f1 s1) : Inv f1 ∧ f1 0 ≤ 99999 := by
  rcases h with ⟨⟨c1, c2⟩, ⟨-, -, rfl, -⟩ | ⟨c3, -, rfl, -⟩⟩ | ⟨-, -, rfl, -⟩
  · exact hI
  · have h1 := nt_le (hi := 5) c1
    have h2 := nt_le (hi := 11) c2
    have h3 := hI.1.2.1
    rw [← adm_add]
    exact ⟨Inv_adm hI.1 (by omega) h1 h2 (by omega), by rw [adm_0]; exact hI.2⟩
  · exact hI
theorem iv_set (hI : Inv f ∧ f 0 ≤ 99999) (h : P_set f st x y z r1 f1 s1) : Inv f1 ∧ f1 0 ≤ 99999 := by
  rcases h with ⟨⟨c1, c2⟩, -, rfl, -⟩ | ⟨-, -, rfl, -⟩
  · refine ⟨?_, by rw [up_lo (by omega)]; exact hI.2⟩
    rcases c2 with ⟨e, c⟩ | ⟨e, c⟩ | ⟨e, c⟩ | ⟨e, c⟩
    · have h2 := nt_le (hi := 11) c
      rw [nt_i (v := 1) e]; exact Inv_set hI.1 (by omega) (by simpa [bnd] using h2)
    · have h2 := nt_le (hi := 4) (inR_0 c)
      rw [nt_i (v := 2) e]; exact Inv_set hI.1 (by omega) (by simpa [bnd] using h2)
    · have h2 := nt_le (hi := 9999) c
      rw [nt_i (v := 3) e]; exact Inv_set hI.1 (by omega) (by simpa [bnd] using h2)
    · have h2 := nt_le (hi := 9999) c
      rw [nt_i (v := 4) e]; exact Inv_set hI.1 (by omega) (by simpa [bnd] using h2)
  · exact hI
theorem iv_turn (hI : Inv f ∧ f 0 ≤ 99999) (h : P_turn f st x y r1 f1 s1) : Inv f1 ∧ f1 0 ≤ 99999 := by
  rcases h with ⟨⟨c1, c2⟩, -, rfl, -⟩ | ⟨-, -, rfl, -⟩
  · have h2 := nt_le (hi := 5) c2
    exact ⟨Inv_set (w := 0) hI.1 (by omega) (by simpa [bnd] using h2), by rw [up_lo (by omega)]; exact hI.2⟩
  · exact hI
theorem iv_minutes (hI : Inv f ∧ f 0 ≤ 99999) (h : P_minutes f st x r1 f1 s1) : Inv f1 ∧ f1 0 ≤ 99999 := by
  rcases h with ⟨c1, ⟨-, -, rfl, -⟩ | ⟨c3, -, rfl, -⟩⟩ | ⟨-, -, rfl, -⟩
  · exact hI
  · exact ⟨goF_inv hI.1 _ (by omega), by rw [goF_0]; exact c3⟩
  · exact hI
theorem layN_inv (hI : Inv f ∧ f 0 ≤ 99999) (nu : Nat → Int64) (s : Nat) : ∀ i, i ≤ 6 → Inv (layN f nu s i) ∧ layN f nu s i 0 ≤ 99999
  | 0, _ => hI
  | i + 1, hi => by
    have ih := layN_inv hI nu s i (by omega)
    show Inv (if isS (nu (40 * s + i)) = true then va_up (layN f nu s i) (2 + i) (nu (40 * s + i)).toInt.toNat else layN f nu s i) ∧ (if isS (nu (40 * s + i)) = true then va_up (layN f nu s i) (2 + i) (nu (40 * s + i)).toInt.toNat else layN f nu s i) 0 ≤ 99999
    by_cases c : isS (nu (40 * s + i)) = true
    · rw [if_pos c]
      have c2 := c
      unfold isS at c2
      rw [Bool.and_eq_true] at c2
      have q1 := of_decide_eq_true c2.1
      have q2 := of_decide_eq_true c2.2
      exact ⟨Inv_sc ih.1 (by omega) (by omega), by rw [va_up_n _ _ (by omega)]; exact ih.2⟩
    · rw [if_neg c]; exact ih
theorem iv_lays (hI : Inv f ∧ f 0 ≤ 99999) (h : P_lays f bi si nu st x r1 f1 s1) : Inv f1 ∧ f1 0 ≤ 99999 := by
  rcases h with ⟨-, -, rfl, -⟩ | ⟨-, -, rfl, -⟩ | ⟨-, -, rfl, -⟩
  · exact hI
  · exact hI
  · exact layN_inv hI _ _ _ (by omega)
theorem iv_undo (hI : Inv f ∧ f 0 ≤ 99999) (hg : Inv g ∧ g 0 ≤ 99999) (h : P_undo f g kp st r1 f1 s1) : Inv f1 ∧ f1 0 ≤ 99999 := by
  rcases h with ⟨-, -, rfl, -⟩ | ⟨-, -, rfl, -⟩
  · exact hI
  · exact hg
theorem fedN_lt (hT : ∀ i, tb i < 256) (k : Nat) : ∀ i j, fedN x k tb tn i j < 256
  | 0, j => hT j
  | i + 1, j => by
    show va_up (fedN x k tb tn i) (tn + i) (bV x (k - 1 - i)) j < 256
    unfold va_up
    split
    · exact bV_lt _ _
    · exact fedN_lt hT k i j
theorem iv_feed {t1 : Row} {n1 : Nat} (hT : (∀ i, tb i < 256) ∧ tn ≤ 120) (h : P_feed tb tn st x y r1 t1 n1 s1) : (∀ i, t1 i < 256) ∧ n1 ≤ 120 := by
  rcases h with ⟨-, ⟨-, -, rfl, rfl, -⟩ | ⟨c, -, rfl, rfl, -⟩⟩ | ⟨-, -, rfl, rfl, -⟩
  · exact hT
  · exact ⟨fun i => fedN_lt hT.1 _ _ _, c⟩
  · exact hT
theorem iv_sheet {b1 z1 : Row} {n1 : Nat → Int64} (hS : ShI bi si) (h : P_sheet bi si nu st x y z r1 b1 z1 n1 s1) : ShI b1 z1 := by
  rcases h with ⟨⟨c1, c2⟩, ⟨-, -, rfl, rfl, -, -⟩ | ⟨-, -, rfl, rfl, -, -⟩ | ⟨c3, -, rfl, rfl, -, -⟩⟩ | ⟨-, -, rfl, rfl, -, -⟩
  · exact hS
  · exact hS
  · intro i hi
    have h4 := nt_le (hi := 40) c3
    have hy : nt y = 0 ∨ nt y = 8 ∨ nt y = 16 ∨ nt y = 64 := by
      rcases c2 with e | e | e | e
      · exact Or.inl (nt_i (v := 0) e)
      · exact Or.inr (Or.inl (nt_i (v := 8) e))
      · exact Or.inr (Or.inr (Or.inl (nt_i (v := 16) e)))
      · exact Or.inr (Or.inr (Or.inr (nt_i (v := 64) e)))
    have hy0 : nt y = 0 → y.toInt = 0 := by
      intro q
      rcases c2 with e | e | e | e
      · exact e
      · have := nt_i (v := 8) e; omega
      · have := nt_i (v := 16) e; omega
      · have := nt_i (v := 64) e; omega
    unfold va_up
    by_cases e : i = nt x
    · rw [if_pos e, if_pos e]
      refine ⟨?_, hy, fun q => by rw [if_pos (hy0 q)]⟩
      split <;> omega
    · rw [if_neg e, if_neg e]
      exact hS i hi
  · exact hS
end DET
