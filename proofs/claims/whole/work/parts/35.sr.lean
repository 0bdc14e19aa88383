theorem sr_1' {g g1 M : Nat → Nat → Int} (h : o_sr (g 193) M) (b0 : M 0 0 ≤ 6) (b1 : M 0 1 ≤ 8) {s : Nat} {w z : Int} (e : g1 = o_e g 193 (7 + 3 * s) w) (hs : s < 6) (hw : w = z) : o_sr (g1 193) (o_e M 1 s z) := by
  obtain ⟨⟨a0, a1, a2, a3, a4, a5, a6⟩, hS, hL, hQ⟩ := h
  subst e; subst hw
  have E : ∀ j, o_e g 193 (7 + 3 * s) w 193 j = if j = 7 + 3 * s then w else g 193 j := by intro j; simp [o_e]
  refine ⟨⟨?_, ?_, ?_, ?_, ?_, ?_, ?_⟩, fun i hi => ?_, fun i hi => ?_, fun i hi => ?_⟩
  · rw [E, if_neg (by omega)]; exact a0
  · rw [E, if_neg (by omega)]; exact a1
  · rw [E, if_neg (by omega)]; exact a2
  · rw [E, if_neg (by omega)]; exact a3
  · rw [E, if_neg (by omega)]; exact a4
  · rw [E, if_neg (by omega)]; exact a5
  · rw [E, if_neg (by omega)]; exact a6
  · have hi8 : (i : Int) < M 0 0 := hi
    have t := hS i hi8
    refine ⟨?_, ?_, ?_⟩
    · rw [E]
      by_cases q : i = s
      · subst q; rw [if_pos rfl, o_e_s]
      · rw [if_neg (by omega), o_e_k q]; exact t.1
    · rw [E, if_neg (by omega)]; exact t.2.1
    · rw [E, if_neg (by omega)]; exact t.2.2
  · have hi8 : (i : Int) < M 0 1 := hi
    have t := hL i hi8
    refine ⟨?_, ?_, ?_, ?_, ?_⟩
    · rw [E, if_neg (by omega)]; exact t.1
    · rw [E, if_neg (by omega)]; exact t.2.1
    · rw [E, if_neg (by omega)]; exact t.2.2.1
    · rw [E, if_neg (by omega)]; exact t.2.2.2.1
    · rw [E, if_neg (by omega)]; exact t.2.2.2.2
  · have hi8 : (i : Int) < M 0 6 := hi
    have t := hQ i hi8
    refine ⟨?_, ?_⟩
    · rw [E, if_neg (by omega)]; exact t.1
    · rw [E, if_neg (by omega)]; exact t.2
theorem sr_2' {g g1 M : Nat → Nat → Int} (h : o_sr (g 193) M) (b0 : M 0 0 ≤ 6) (b1 : M 0 1 ≤ 8) {s : Nat} {w z : Int} (e : g1 = o_e g 193 (7 + 3 * s + 1) w) (hs : s < 6) (hw : w = z) : o_sr (g1 193) (o_e M 2 s z) := by
  obtain ⟨⟨a0, a1, a2, a3, a4, a5, a6⟩, hS, hL, hQ⟩ := h
  subst e; subst hw
  have E : ∀ j, o_e g 193 (7 + 3 * s + 1) w 193 j = if j = 7 + 3 * s + 1 then w else g 193 j := by intro j; simp [o_e]
  refine ⟨⟨?_, ?_, ?_, ?_, ?_, ?_, ?_⟩, fun i hi => ?_, fun i hi => ?_, fun i hi => ?_⟩
  · rw [E, if_neg (by omega)]; exact a0
  · rw [E, if_neg (by omega)]; exact a1
  · rw [E, if_neg (by omega)]; exact a2
  · rw [E, if_neg (by omega)]; exact a3
  · rw [E, if_neg (by omega)]; exact a4
  · rw [E, if_neg (by omega)]; exact a5
  · rw [E, if_neg (by omega)]; exact a6
  · have hi8 : (i : Int) < M 0 0 := hi
    have t := hS i hi8
    refine ⟨?_, ?_, ?_⟩
    · rw [E, if_neg (by omega)]; exact t.1
    · rw [E]
      by_cases q : i = s
      · subst q; rw [if_pos rfl, o_e_s]
      · rw [if_neg (by omega), o_e_k q]; exact t.2.1
    · rw [E, if_neg (by omega)]; exact t.2.2
  · have hi8 : (i : Int) < M 0 1 := hi
    have t := hL i hi8
    refine ⟨?_, ?_, ?_, ?_, ?_⟩
    · rw [E, if_neg (by omega)]; exact t.1
    · rw [E, if_neg (by omega)]; exact t.2.1
    · rw [E, if_neg (by omega)]; exact t.2.2.1
    · rw [E, if_neg (by omega)]; exact t.2.2.2.1
    · rw [E, if_neg (by omega)]; exact t.2.2.2.2
  · have hi8 : (i : Int) < M 0 6 := hi
    have t := hQ i hi8
    refine ⟨?_, ?_⟩
    · rw [E, if_neg (by omega)]; exact t.1
    · rw [E, if_neg (by omega)]; exact t.2
theorem sr_3' {g g1 M : Nat → Nat → Int} (h : o_sr (g 193) M) (b0 : M 0 0 ≤ 6) (b1 : M 0 1 ≤ 8) {s : Nat} {w z : Int} (e : g1 = o_e g 193 (7 + 3 * s + 2) w) (hs : s < 6) (hw : w = z) : o_sr (g1 193) (o_e M 3 s z) := by
  obtain ⟨⟨a0, a1, a2, a3, a4, a5, a6⟩, hS, hL, hQ⟩ := h
  subst e; subst hw
  have E : ∀ j, o_e g 193 (7 + 3 * s + 2) w 193 j = if j = 7 + 3 * s + 2 then w else g 193 j := by intro j; simp [o_e]
  refine ⟨⟨?_, ?_, ?_, ?_, ?_, ?_, ?_⟩, fun i hi => ?_, fun i hi => ?_, fun i hi => ?_⟩
  · rw [E, if_neg (by omega)]; exact a0
  · rw [E, if_neg (by omega)]; exact a1
  · rw [E, if_neg (by omega)]; exact a2
  · rw [E, if_neg (by omega)]; exact a3
  · rw [E, if_neg (by omega)]; exact a4
  · rw [E, if_neg (by omega)]; exact a5
  · rw [E, if_neg (by omega)]; exact a6
  · have hi8 : (i : Int) < M 0 0 := hi
    have t := hS i hi8
    refine ⟨?_, ?_, ?_⟩
    · rw [E, if_neg (by omega)]; exact t.1
    · rw [E, if_neg (by omega)]; exact t.2.1
    · rw [E]
      by_cases q : i = s
      · subst q; rw [if_pos rfl, o_e_s]
      · rw [if_neg (by omega), o_e_k q]; exact t.2.2
  · have hi8 : (i : Int) < M 0 1 := hi
    have t := hL i hi8
    refine ⟨?_, ?_, ?_, ?_, ?_⟩
    · rw [E, if_neg (by omega)]; exact t.1
    · rw [E, if_neg (by omega)]; exact t.2.1
    · rw [E, if_neg (by omega)]; exact t.2.2.1
    · rw [E, if_neg (by omega)]; exact t.2.2.2.1
    · rw [E, if_neg (by omega)]; exact t.2.2.2.2
  · have hi8 : (i : Int) < M 0 6 := hi
    have t := hQ i hi8
    refine ⟨?_, ?_⟩
    · rw [E, if_neg (by omega)]; exact t.1
    · rw [E, if_neg (by omega)]; exact t.2
theorem sr_4' {g g1 M : Nat → Nat → Int} (h : o_sr (g 193) M) (b0 : M 0 0 ≤ 6) (b1 : M 0 1 ≤ 8) {s : Nat} {w z : Int} (e : g1 = o_e g 193 (25 + 5 * s) w) (hs : s < 8) (hw : w = z) : o_sr (g1 193) (o_e M 4 s z) := by
  obtain ⟨⟨a0, a1, a2, a3, a4, a5, a6⟩, hS, hL, hQ⟩ := h
  subst e; subst hw
  have E : ∀ j, o_e g 193 (25 + 5 * s) w 193 j = if j = 25 + 5 * s then w else g 193 j := by intro j; simp [o_e]
  refine ⟨⟨?_, ?_, ?_, ?_, ?_, ?_, ?_⟩, fun i hi => ?_, fun i hi => ?_, fun i hi => ?_⟩
  · rw [E, if_neg (by omega)]; exact a0
  · rw [E, if_neg (by omega)]; exact a1
  · rw [E, if_neg (by omega)]; exact a2
  · rw [E, if_neg (by omega)]; exact a3
  · rw [E, if_neg (by omega)]; exact a4
  · rw [E, if_neg (by omega)]; exact a5
  · rw [E, if_neg (by omega)]; exact a6
  · have hi8 : (i : Int) < M 0 0 := hi
    have t := hS i hi8
    refine ⟨?_, ?_, ?_⟩
    · rw [E, if_neg (by omega)]; exact t.1
    · rw [E, if_neg (by omega)]; exact t.2.1
    · rw [E, if_neg (by omega)]; exact t.2.2
  · have hi8 : (i : Int) < M 0 1 := hi
    have t := hL i hi8
    refine ⟨?_, ?_, ?_, ?_, ?_⟩
    · rw [E]
      by_cases q : i = s
      · subst q; rw [if_pos rfl, o_e_s]
      · rw [if_neg (by omega), o_e_k q]; exact t.1
    · rw [E, if_neg (by omega)]; exact t.2.1
    · rw [E, if_neg (by omega)]; exact t.2.2.1
    · rw [E, if_neg (by omega)]; exact t.2.2.2.1
    · rw [E, if_neg (by omega)]; exact t.2.2.2.2
  · have hi8 : (i : Int) < M 0 6 := hi
    have t := hQ i hi8
    refine ⟨?_, ?_⟩
    · rw [E, if_neg (by omega)]; exact t.1
    · rw [E, if_neg (by omega)]; exact t.2
theorem sr_5' {g g1 M : Nat → Nat → Int} (h : o_sr (g 193) M) (b0 : M 0 0 ≤ 6) (b1 : M 0 1 ≤ 8) {s : Nat} {w z : Int} (e : g1 = o_e g 193 (25 + 5 * s + 1) w) (hs : s < 8) (hw : w = z) : o_sr (g1 193) (o_e M 5 s z) := by
  obtain ⟨⟨a0, a1, a2, a3, a4, a5, a6⟩, hS, hL, hQ⟩ := h
  subst e; subst hw
  have E : ∀ j, o_e g 193 (25 + 5 * s + 1) w 193 j = if j = 25 + 5 * s + 1 then w else g 193 j := by intro j; simp [o_e]
  refine ⟨⟨?_, ?_, ?_, ?_, ?_, ?_, ?_⟩, fun i hi => ?_, fun i hi => ?_, fun i hi => ?_⟩
  · rw [E, if_neg (by omega)]; exact a0
  · rw [E, if_neg (by omega)]; exact a1
  · rw [E, if_neg (by omega)]; exact a2
  · rw [E, if_neg (by omega)]; exact a3
  · rw [E, if_neg (by omega)]; exact a4
  · rw [E, if_neg (by omega)]; exact a5
  · rw [E, if_neg (by omega)]; exact a6
  · have hi8 : (i : Int) < M 0 0 := hi
    have t := hS i hi8
    refine ⟨?_, ?_, ?_⟩
    · rw [E, if_neg (by omega)]; exact t.1
    · rw [E, if_neg (by omega)]; exact t.2.1
    · rw [E, if_neg (by omega)]; exact t.2.2
  · have hi8 : (i : Int) < M 0 1 := hi
    have t := hL i hi8
    refine ⟨?_, ?_, ?_, ?_, ?_⟩
    · rw [E, if_neg (by omega)]; exact t.1
    · rw [E]
      by_cases q : i = s
      · subst q; rw [if_pos rfl, o_e_s]
      · rw [if_neg (by omega), o_e_k q]; exact t.2.1
    · rw [E, if_neg (by omega)]; exact t.2.2.1
    · rw [E, if_neg (by omega)]; exact t.2.2.2.1
    · rw [E, if_neg (by omega)]; exact t.2.2.2.2
  · have hi8 : (i : Int) < M 0 6 := hi
    have t := hQ i hi8
    refine ⟨?_, ?_⟩
    · rw [E, if_neg (by omega)]; exact t.1
    · rw [E, if_neg (by omega)]; exact t.2
theorem sr_6' {g g1 M : Nat → Nat → Int} (h : o_sr (g 193) M) (b0 : M 0 0 ≤ 6) (b1 : M 0 1 ≤ 8) {s : Nat} {w z : Int} (e : g1 = o_e g 193 (25 + 5 * s + 2) w) (hs : s < 8) (hw : w = z) : o_sr (g1 193) (o_e M 6 s z) := by
  obtain ⟨⟨a0, a1, a2, a3, a4, a5, a6⟩, hS, hL, hQ⟩ := h
  subst e; subst hw
  have E : ∀ j, o_e g 193 (25 + 5 * s + 2) w 193 j = if j = 25 + 5 * s + 2 then w else g 193 j := by intro j; simp [o_e]
  refine ⟨⟨?_, ?_, ?_, ?_, ?_, ?_, ?_⟩, fun i hi => ?_, fun i hi => ?_, fun i hi => ?_⟩
  · rw [E, if_neg (by omega)]; exact a0
  · rw [E, if_neg (by omega)]; exact a1
  · rw [E, if_neg (by omega)]; exact a2
  · rw [E, if_neg (by omega)]; exact a3
  · rw [E, if_neg (by omega)]; exact a4
  · rw [E, if_neg (by omega)]; exact a5
  · rw [E, if_neg (by omega)]; exact a6
  · have hi8 : (i : Int) < M 0 0 := hi
    have t := hS i hi8
    refine ⟨?_, ?_, ?_⟩
    · rw [E, if_neg (by omega)]; exact t.1
    · rw [E, if_neg (by omega)]; exact t.2.1
    · rw [E, if_neg (by omega)]; exact t.2.2
  · have hi8 : (i : Int) < M 0 1 := hi
    have t := hL i hi8
    refine ⟨?_, ?_, ?_, ?_, ?_⟩
    · rw [E, if_neg (by omega)]; exact t.1
    · rw [E, if_neg (by omega)]; exact t.2.1
    · rw [E]
      by_cases q : i = s
      · subst q; rw [if_pos rfl, o_e_s]
      · rw [if_neg (by omega), o_e_k q]; exact t.2.2.1
    · rw [E, if_neg (by omega)]; exact t.2.2.2.1
    · rw [E, if_neg (by omega)]; exact t.2.2.2.2
  · have hi8 : (i : Int) < M 0 6 := hi
    have t := hQ i hi8
    refine ⟨?_, ?_⟩
    · rw [E, if_neg (by omega)]; exact t.1
    · rw [E, if_neg (by omega)]; exact t.2
theorem sr_7' {g g1 M : Nat → Nat → Int} (h : o_sr (g 193) M) (b0 : M 0 0 ≤ 6) (b1 : M 0 1 ≤ 8) {s : Nat} {w z : Int} (e : g1 = o_e g 193 (25 + 5 * s + 3) w) (hs : s < 8) (hw : w = z) : o_sr (g1 193) (o_e M 7 s z) := by
  obtain ⟨⟨a0, a1, a2, a3, a4, a5, a6⟩, hS, hL, hQ⟩ := h
  subst e; subst hw
  have E : ∀ j, o_e g 193 (25 + 5 * s + 3) w 193 j = if j = 25 + 5 * s + 3 then w else g 193 j := by intro j; simp [o_e]
  refine ⟨⟨?_, ?_, ?_, ?_, ?_, ?_, ?_⟩, fun i hi => ?_, fun i hi => ?_, fun i hi => ?_⟩
  · rw [E, if_neg (by omega)]; exact a0
  · rw [E, if_neg (by omega)]; exact a1
  · rw [E, if_neg (by omega)]; exact a2
  · rw [E, if_neg (by omega)]; exact a3
  · rw [E, if_neg (by omega)]; exact a4
  · rw [E, if_neg (by omega)]; exact a5
  · rw [E, if_neg (by omega)]; exact a6
  · have hi8 : (i : Int) < M 0 0 := hi
    have t := hS i hi8
    refine ⟨?_, ?_, ?_⟩
    · rw [E, if_neg (by omega)]; exact t.1
    · rw [E, if_neg (by omega)]; exact t.2.1
    · rw [E, if_neg (by omega)]; exact t.2.2
  · have hi8 : (i : Int) < M 0 1 := hi
    have t := hL i hi8
    refine ⟨?_, ?_, ?_, ?_, ?_⟩
    · rw [E, if_neg (by omega)]; exact t.1
    · rw [E, if_neg (by omega)]; exact t.2.1
    · rw [E, if_neg (by omega)]; exact t.2.2.1
    · rw [E]
      by_cases q : i = s
      · subst q; rw [if_pos rfl, o_e_s]
      · rw [if_neg (by omega), o_e_k q]; exact t.2.2.2.1
    · rw [E, if_neg (by omega)]; exact t.2.2.2.2
  · have hi8 : (i : Int) < M 0 6 := hi
    have t := hQ i hi8
    refine ⟨?_, ?_⟩
    · rw [E, if_neg (by omega)]; exact t.1
    · rw [E, if_neg (by omega)]; exact t.2
theorem sr_8' {g g1 M : Nat → Nat → Int} (h : o_sr (g 193) M) (b0 : M 0 0 ≤ 6) (b1 : M 0 1 ≤ 8) {s : Nat} {w z : Int} (e : g1 = o_e g 193 (25 + 5 * s + 4) w) (hs : s < 8) (hw : w = z) : o_sr (g1 193) (o_e M 8 s z) := by
  obtain ⟨⟨a0, a1, a2, a3, a4, a5, a6⟩, hS, hL, hQ⟩ := h
  subst e; subst hw
  have E : ∀ j, o_e g 193 (25 + 5 * s + 4) w 193 j = if j = 25 + 5 * s + 4 then w else g 193 j := by intro j; simp [o_e]
  refine ⟨⟨?_, ?_, ?_, ?_, ?_, ?_, ?_⟩, fun i hi => ?_, fun i hi => ?_, fun i hi => ?_⟩
  · rw [E, if_neg (by omega)]; exact a0
  · rw [E, if_neg (by omega)]; exact a1
  · rw [E, if_neg (by omega)]; exact a2
  · rw [E, if_neg (by omega)]; exact a3
  · rw [E, if_neg (by omega)]; exact a4
  · rw [E, if_neg (by omega)]; exact a5
  · rw [E, if_neg (by omega)]; exact a6
  · have hi8 : (i : Int) < M 0 0 := hi
    have t := hS i hi8
    refine ⟨?_, ?_, ?_⟩
    · rw [E, if_neg (by omega)]; exact t.1
    · rw [E, if_neg (by omega)]; exact t.2.1
    · rw [E, if_neg (by omega)]; exact t.2.2
  · have hi8 : (i : Int) < M 0 1 := hi
    have t := hL i hi8
    refine ⟨?_, ?_, ?_, ?_, ?_⟩
    · rw [E, if_neg (by omega)]; exact t.1
    · rw [E, if_neg (by omega)]; exact t.2.1
    · rw [E, if_neg (by omega)]; exact t.2.2.1
    · rw [E, if_neg (by omega)]; exact t.2.2.2.1
    · rw [E]
      by_cases q : i = s
      · subst q; rw [if_pos rfl, o_e_s]
      · rw [if_neg (by omega), o_e_k q]; exact t.2.2.2.2
  · have hi8 : (i : Int) < M 0 6 := hi
    have t := hQ i hi8
    refine ⟨?_, ?_⟩
    · rw [E, if_neg (by omega)]; exact t.1
    · rw [E, if_neg (by omega)]; exact t.2
theorem sr_9' {g g1 M : Nat → Nat → Int} (h : o_sr (g 193) M) (b0 : M 0 0 ≤ 6) (b1 : M 0 1 ≤ 8) {s : Nat} {w z : Int} (e : g1 = o_e g 193 (65 + 2 * s) w) (hs : s < 8) (hw : w = z) : o_sr (g1 193) (o_e M 9 s z) := by
  obtain ⟨⟨a0, a1, a2, a3, a4, a5, a6⟩, hS, hL, hQ⟩ := h
  subst e; subst hw
  have E : ∀ j, o_e g 193 (65 + 2 * s) w 193 j = if j = 65 + 2 * s then w else g 193 j := by intro j; simp [o_e]
  refine ⟨⟨?_, ?_, ?_, ?_, ?_, ?_, ?_⟩, fun i hi => ?_, fun i hi => ?_, fun i hi => ?_⟩
  · rw [E, if_neg (by omega)]; exact a0
  · rw [E, if_neg (by omega)]; exact a1
  · rw [E, if_neg (by omega)]; exact a2
  · rw [E, if_neg (by omega)]; exact a3
  · rw [E, if_neg (by omega)]; exact a4
  · rw [E, if_neg (by omega)]; exact a5
  · rw [E, if_neg (by omega)]; exact a6
  · have hi8 : (i : Int) < M 0 0 := hi
    have t := hS i hi8
    refine ⟨?_, ?_, ?_⟩
    · rw [E, if_neg (by omega)]; exact t.1
    · rw [E, if_neg (by omega)]; exact t.2.1
    · rw [E, if_neg (by omega)]; exact t.2.2
  · have hi8 : (i : Int) < M 0 1 := hi
    have t := hL i hi8
    refine ⟨?_, ?_, ?_, ?_, ?_⟩
    · rw [E, if_neg (by omega)]; exact t.1
    · rw [E, if_neg (by omega)]; exact t.2.1
    · rw [E, if_neg (by omega)]; exact t.2.2.1
    · rw [E, if_neg (by omega)]; exact t.2.2.2.1
    · rw [E, if_neg (by omega)]; exact t.2.2.2.2
  · have hi8 : (i : Int) < M 0 6 := hi
    have t := hQ i hi8
    refine ⟨?_, ?_⟩
    · rw [E]
      by_cases q : i = s
      · subst q; rw [if_pos rfl, o_e_s]
      · rw [if_neg (by omega), o_e_k q]; exact t.1
    · rw [E, if_neg (by omega)]; exact t.2
theorem sr_10' {g g1 M : Nat → Nat → Int} (h : o_sr (g 193) M) (b0 : M 0 0 ≤ 6) (b1 : M 0 1 ≤ 8) {s : Nat} {w z : Int} (e : g1 = o_e g 193 (65 + 2 * s + 1) w) (hs : s < 8) (hw : w = z) : o_sr (g1 193) (o_e M 10 s z) := by
  obtain ⟨⟨a0, a1, a2, a3, a4, a5, a6⟩, hS, hL, hQ⟩ := h
  subst e; subst hw
  have E : ∀ j, o_e g 193 (65 + 2 * s + 1) w 193 j = if j = 65 + 2 * s + 1 then w else g 193 j := by intro j; simp [o_e]
  refine ⟨⟨?_, ?_, ?_, ?_, ?_, ?_, ?_⟩, fun i hi => ?_, fun i hi => ?_, fun i hi => ?_⟩
  · rw [E, if_neg (by omega)]; exact a0
  · rw [E, if_neg (by omega)]; exact a1
  · rw [E, if_neg (by omega)]; exact a2
  · rw [E, if_neg (by omega)]; exact a3
  · rw [E, if_neg (by omega)]; exact a4
  · rw [E, if_neg (by omega)]; exact a5
  · rw [E, if_neg (by omega)]; exact a6
  · have hi8 : (i : Int) < M 0 0 := hi
    have t := hS i hi8
    refine ⟨?_, ?_, ?_⟩
    · rw [E, if_neg (by omega)]; exact t.1
    · rw [E, if_neg (by omega)]; exact t.2.1
    · rw [E, if_neg (by omega)]; exact t.2.2
  · have hi8 : (i : Int) < M 0 1 := hi
    have t := hL i hi8
    refine ⟨?_, ?_, ?_, ?_, ?_⟩
    · rw [E, if_neg (by omega)]; exact t.1
    · rw [E, if_neg (by omega)]; exact t.2.1
    · rw [E, if_neg (by omega)]; exact t.2.2.1
    · rw [E, if_neg (by omega)]; exact t.2.2.2.1
    · rw [E, if_neg (by omega)]; exact t.2.2.2.2
  · have hi8 : (i : Int) < M 0 6 := hi
    have t := hQ i hi8
    refine ⟨?_, ?_⟩
    · rw [E, if_neg (by omega)]; exact t.1
    · rw [E]
      by_cases q : i = s
      · subst q; rw [if_pos rfl, o_e_s]
      · rw [if_neg (by omega), o_e_k q]; exact t.2
theorem sr_0_2' {g g1 M : Nat → Nat → Int} (h : o_sr (g 193) M) {w z : Int} (e : g1 = o_e g 193 2 w) (hw : w = z) : o_sr (g1 193) (o_e M 0 2 z) := by
  obtain ⟨⟨a0, a1, a2, a3, a4, a5, a6⟩, hS, hL, hQ⟩ := h
  subst e; subst hw
  have E : ∀ i, i ≠ 2 → o_e g 193 2 w 193 i = g 193 i := fun i hi => o_e_k hi
  refine ⟨⟨?_, ?_, ?_, ?_, ?_, ?_, ?_⟩, fun i hi => ?_, fun i hi => ?_, fun i hi => ?_⟩
  · rw [E 0 (by decide)]; exact a0
  · rw [E 1 (by decide)]; exact a1
  · exact o_e_s
  · rw [E 3 (by decide)]; exact a3
  · rw [E 4 (by decide)]; exact a4
  · rw [E 5 (by decide)]; exact a5
  · rw [E 6 (by decide)]; exact a6
  · rw [E _ (by omega), E _ (by omega), E _ (by omega)]; exact hS i hi
  · rw [E _ (by omega), E _ (by omega), E _ (by omega), E _ (by omega), E _ (by omega)]; exact hL i hi
  · rw [E _ (by omega), E _ (by omega)]; exact hQ i hi
theorem sr_0_3' {g g1 M : Nat → Nat → Int} (h : o_sr (g 193) M) {w z : Int} (e : g1 = o_e g 193 3 w) (hw : w = z) : o_sr (g1 193) (o_e M 0 3 z) := by
  obtain ⟨⟨a0, a1, a2, a3, a4, a5, a6⟩, hS, hL, hQ⟩ := h
  subst e; subst hw
  have E : ∀ i, i ≠ 3 → o_e g 193 3 w 193 i = g 193 i := fun i hi => o_e_k hi
  refine ⟨⟨?_, ?_, ?_, ?_, ?_, ?_, ?_⟩, fun i hi => ?_, fun i hi => ?_, fun i hi => ?_⟩
  · rw [E 0 (by decide)]; exact a0
  · rw [E 1 (by decide)]; exact a1
  · rw [E 2 (by decide)]; exact a2
  · exact o_e_s
  · rw [E 4 (by decide)]; exact a4
  · rw [E 5 (by decide)]; exact a5
  · rw [E 6 (by decide)]; exact a6
  · rw [E _ (by omega), E _ (by omega), E _ (by omega)]; exact hS i hi
  · rw [E _ (by omega), E _ (by omega), E _ (by omega), E _ (by omega), E _ (by omega)]; exact hL i hi
  · rw [E _ (by omega), E _ (by omega)]; exact hQ i hi
theorem sr_0_4' {g g1 M : Nat → Nat → Int} (h : o_sr (g 193) M) {w z : Int} (e : g1 = o_e g 193 4 w) (hw : w = z) : o_sr (g1 193) (o_e M 0 4 z) := by
  obtain ⟨⟨a0, a1, a2, a3, a4, a5, a6⟩, hS, hL, hQ⟩ := h
  subst e; subst hw
  have E : ∀ i, i ≠ 4 → o_e g 193 4 w 193 i = g 193 i := fun i hi => o_e_k hi
  refine ⟨⟨?_, ?_, ?_, ?_, ?_, ?_, ?_⟩, fun i hi => ?_, fun i hi => ?_, fun i hi => ?_⟩
  · rw [E 0 (by decide)]; exact a0
  · rw [E 1 (by decide)]; exact a1
  · rw [E 2 (by decide)]; exact a2
  · rw [E 3 (by decide)]; exact a3
  · exact o_e_s
  · rw [E 5 (by decide)]; exact a5
  · rw [E 6 (by decide)]; exact a6
  · rw [E _ (by omega), E _ (by omega), E _ (by omega)]; exact hS i hi
  · rw [E _ (by omega), E _ (by omega), E _ (by omega), E _ (by omega), E _ (by omega)]; exact hL i hi
  · rw [E _ (by omega), E _ (by omega)]; exact hQ i hi
theorem sr_0_5' {g g1 M : Nat → Nat → Int} (h : o_sr (g 193) M) {w z : Int} (e : g1 = o_e g 193 5 w) (hw : w = z) : o_sr (g1 193) (o_e M 0 5 z) := by
  obtain ⟨⟨a0, a1, a2, a3, a4, a5, a6⟩, hS, hL, hQ⟩ := h
  subst e; subst hw
  have E : ∀ i, i ≠ 5 → o_e g 193 5 w 193 i = g 193 i := fun i hi => o_e_k hi
  refine ⟨⟨?_, ?_, ?_, ?_, ?_, ?_, ?_⟩, fun i hi => ?_, fun i hi => ?_, fun i hi => ?_⟩
  · rw [E 0 (by decide)]; exact a0
  · rw [E 1 (by decide)]; exact a1
  · rw [E 2 (by decide)]; exact a2
  · rw [E 3 (by decide)]; exact a3
  · rw [E 4 (by decide)]; exact a4
  · exact o_e_s
  · rw [E 6 (by decide)]; exact a6
  · rw [E _ (by omega), E _ (by omega), E _ (by omega)]; exact hS i hi
  · rw [E _ (by omega), E _ (by omega), E _ (by omega), E _ (by omega), E _ (by omega)]; exact hL i hi
  · rw [E _ (by omega), E _ (by omega)]; exact hQ i hi
/-- a count goes down -/
theorem sr_06' {g g1 M : Nat → Nat → Int} (h : o_sr (g 193) M) {w z : Int} (e : g1 = o_e g 193 6 w) (hw : w = z) (hz : z ≤ M 0 6) : o_sr (g1 193) (o_e M 0 6 z) := by
  obtain ⟨⟨a0, a1, a2, a3, a4, a5, a6⟩, hS, hL, hQ⟩ := h
  subst e; subst hw
  have E : ∀ i, i ≠ 6 → o_e g 193 6 w 193 i = g 193 i := fun i hi => o_e_k hi
  refine ⟨⟨?_, ?_, ?_, ?_, ?_, ?_, ?_⟩, fun i hi => ?_, fun i hi => ?_, fun i hi => ?_⟩
  · rw [E 0 (by decide)]; exact a0
  · rw [E 1 (by decide)]; exact a1
  · rw [E 2 (by decide)]; exact a2
  · rw [E 3 (by decide)]; exact a3
  · rw [E 4 (by decide)]; exact a4
  · rw [E 5 (by decide)]; exact a5
  · exact o_e_s
  · rw [E _ (by omega), E _ (by omega), E _ (by omega)]; exact hS i hi
  · rw [E _ (by omega), E _ (by omega), E _ (by omega), E _ (by omega), E _ (by omega)]; exact hL i hi
  · have hi8 : (i : Int) < w := hi
    rw [E _ (by omega), E _ (by omega)]; exact hQ i (by omega)
theorem o_cpyS : Cond.native arraycopyName ∈ o_gW ∧ Cond.static arraycopyName ∈ o_gW ∧ Cond.initialized "java/lang/System" ∈ o_gW := by decide +kernel
theorem o_cpyI (f g : Nat → Int) (a b n : Nat) : ∀ j, va_cpy (fun j => o_I (f j)) (fun j => o_I (g j)) a b n j = o_I (va_cpy f g a b n j) := by
  intro j
  unfold va_cpy
  split <;> rfl
