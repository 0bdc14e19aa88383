/-! the reference's changes: an answer, or the place of an exception -/
def r_do (k v : Int) (M' g : Nat → Nat → Int) : o_P := o_mt (some (.int (o_I (if k = 0 then v else 0)))) (fun g' => (k = 0 → o_sr (g' 193) M' ∧ o_fr o_mc g g') ∧ (k ≠ 0 → g' = o_e g 192 7 k))
theorem o_doF {k c v : Int} {M' g g' : Nat → Nat → Int} (hk : k = c) (hc : c ≠ 0) (h : g' = o_e g 192 7 c) : r_do k v M' g (.inl (some (.int (o_I 0)))) o_N (o_mem g') := by
  subst hk
  unfold r_do
  rw [if_neg hc]
  exact o_mtI rfl ⟨fun q => absurd q hc, fun _ => h⟩
theorem o_doY {k v z : Int} {M' g g' : Nat → Nat → Int} (hk : k = 0) (hv : v = z) (h : o_sr (g' 193) M' ∧ o_fr o_mc g g') : r_do k v M' g (.inl (some (.int (o_I z)))) o_N (o_mem g') := by
  subst hk
  unfold r_do
  rw [if_pos rfl]
  exact o_mtI hv ⟨fun _ => h, fun q => absurd rfl q⟩
def r_ship (M : Nat → Nat → Int) : Int := if 6 ≤ M 0 0 then 1 else 0
def r_lamp (M : Nat → Nat → Int) (v : Int) : Int := if v < 1 ∨ 3 < v then 1 else if 8 ≤ M 0 1 then 2 else 0
def r_oil (M : Nat → Nat → Int) (u : Int) : Int := if u < 1 ∨ 200 < u then 1 else if 500 < M 0 2 + u then 2 else 0
def r_lease (M : Nat → Nat → Int) (s x t : Int) : Int := if ¬ (0 ≤ s ∧ s < M 0 0) ∨ ¬ (0 ≤ x ∧ x < M 0 1) then 1 else if t < 1 ∨ 24 < t then 2 else if 0 < M 5 x.toNat then 3 else if M 4 x.toNat * t ≤ M 1 s.toNat then 0 else 4
def r_req (M : Nat → Nat → Int) (x t : Int) : Int := if ¬ (0 ≤ x ∧ x < M 0 1) then 1 else if t < 1 ∨ 24 < t then 2 else if ¬ 0 < M 5 x.toNat then 3 else if m_pos M x.toNat = -1 then 0 else 4
def r_unl (M : Nat → Nat → Int) (x : Int) : Int := if ¬ (0 ≤ x ∧ x < M 0 1) then 1 else if 0 < M 5 x.toNat then 0 else 2
def r_wait (t : Int) : Int := if t < 1 ∨ 48 < t then 1 else 0
theorem sr_ship {g M : Nat → Nat → Int}  (h : o_sr (g 193) M) (b0 : M 0 0 ≤ 6) (b1 : M 0 1 ≤ 8) (b6 : M 0 6 ≤ 8) (hc0 : 0 ≤ M 0 0) {n : Nat} (hn : (n : Int) = M 0 0) (hn8 : n < 6) {g1 : Nat → Nat → Int} (E : ∀ j, g1 193 j = if j = 0 then M 0 0 + 1 else if j = 7 + 3 * n + 2 then 0 else if j = 7 + 3 * n + 1 then 0 else if j = 7 + 3 * n then 100 else g 193 j) : o_sr (g1 193) (m_ship M) := by
  obtain ⟨⟨a0, a1, a2, a3, a4, a5, a6⟩, hS, hL, hQ⟩ := h
  have hn9 : (M 0 0).toNat = n := by omega
  have S0 : ∀ j, m_ship M 0 j = if j = 0 then M 0 0 + 1 else M 0 j := by intro j; simp [m_ship, o_e]
  have S1 : ∀ j, m_ship M 1 j = if j = n then 100 else M 1 j := by intro j; simp [m_ship, o_e, hn9]
  have S2 : ∀ j, m_ship M 2 j = if j = n then 0 else M 2 j := by intro j; simp [m_ship, o_e, hn9]
  have S3 : ∀ j, m_ship M 3 j = if j = n then 0 else M 3 j := by intro j; simp [m_ship, o_e, hn9]
  have S4 : ∀ j, m_ship M 4 j = M 4 j := by intro j; simp [m_ship, o_e]
  have S5 : ∀ j, m_ship M 5 j = M 5 j := by intro j; simp [m_ship, o_e]
  have S6 : ∀ j, m_ship M 6 j = M 6 j := by intro j; simp [m_ship, o_e]
  have S7 : ∀ j, m_ship M 7 j = M 7 j := by intro j; simp [m_ship, o_e]
  have S8 : ∀ j, m_ship M 8 j = M 8 j := by intro j; simp [m_ship, o_e]
  have S9 : ∀ j, m_ship M 9 j = M 9 j := by intro j; simp [m_ship, o_e]
  have S10 : ∀ j, m_ship M 10 j = M 10 j := by intro j; simp [m_ship, o_e]
  refine ⟨⟨?_, ?_, ?_, ?_, ?_, ?_, ?_⟩, fun i hi => ?_, fun i hi => ?_, fun i hi => ?_⟩
  · rw [E, S0]; (repeat' split) <;> omega
  · rw [E, S0]; (repeat' split) <;> omega
  · rw [E, S0]; (repeat' split) <;> omega
  · rw [E, S0]; (repeat' split) <;> omega
  · rw [E, S0]; (repeat' split) <;> omega
  · rw [E, S0]; (repeat' split) <;> omega
  · rw [E, S0]; (repeat' split) <;> omega
  · rw [S0] at hi
    rw [if_pos rfl] at hi
    have t := hS i
    refine ⟨?_, ?_, ?_⟩ <;> rw [E] <;> first
      | (rw [S1]; (repeat' split) <;> omega)
      | (rw [S2]; (repeat' split) <;> omega)
      | (rw [S3]; (repeat' split) <;> omega)
  · rw [S0] at hi
    rw [if_neg (by decide)] at hi
    have t := hL i hi
    refine ⟨?_, ?_, ?_, ?_, ?_⟩ <;> rw [E] <;> first
      | (rw [S4]; (repeat' split) <;> omega)
      | (rw [S5]; (repeat' split) <;> omega)
      | (rw [S6]; (repeat' split) <;> omega)
      | (rw [S7]; (repeat' split) <;> omega)
      | (rw [S8]; (repeat' split) <;> omega)
  · rw [S0] at hi
    rw [if_neg (by decide)] at hi
    have t := hQ i hi
    refine ⟨?_, ?_⟩ <;> rw [E] <;> first
      | (rw [S9]; (repeat' split) <;> omega)
      | (rw [S10]; (repeat' split) <;> omega)
theorem sr_lamp {g M : Nat → Nat → Int} {v : Int} (h : o_sr (g 193) M) (b0 : M 0 0 ≤ 6) (b1 : M 0 1 ≤ 8) (b6 : M 0 6 ≤ 8) (hc0 : 0 ≤ M 0 1) {n : Nat} (hn : (n : Int) = M 0 1) (hn8 : n < 8) {g1 : Nat → Nat → Int} (E : ∀ j, g1 193 j = if j = 1 then M 0 1 + 1 else if j = 25 + 5 * n then v else if j = 25 + 5 * n + 4 then 0 else if j = 25 + 5 * n + 3 then 0 else if j = 25 + 5 * n + 2 then 0 else if j = 25 + 5 * n + 1 then 0 else g 193 j) : o_sr (g1 193) (m_lamp M v) := by
  obtain ⟨⟨a0, a1, a2, a3, a4, a5, a6⟩, hS, hL, hQ⟩ := h
  have hn9 : (M 0 1).toNat = n := by omega
  have S0 : ∀ j, m_lamp M v 0 j = if j = 1 then M 0 1 + 1 else M 0 j := by intro j; simp [m_lamp, o_e]
  have S1 : ∀ j, m_lamp M v 1 j = M 1 j := by intro j; simp [m_lamp, o_e]
  have S2 : ∀ j, m_lamp M v 2 j = M 2 j := by intro j; simp [m_lamp, o_e]
  have S3 : ∀ j, m_lamp M v 3 j = M 3 j := by intro j; simp [m_lamp, o_e]
  have S4 : ∀ j, m_lamp M v 4 j = if j = n then v else M 4 j := by intro j; simp [m_lamp, o_e, hn9]
  have S5 : ∀ j, m_lamp M v 5 j = if j = n then 0 else M 5 j := by intro j; simp [m_lamp, o_e, hn9]
  have S6 : ∀ j, m_lamp M v 6 j = if j = n then 0 else M 6 j := by intro j; simp [m_lamp, o_e, hn9]
  have S7 : ∀ j, m_lamp M v 7 j = if j = n then 0 else M 7 j := by intro j; simp [m_lamp, o_e, hn9]
  have S8 : ∀ j, m_lamp M v 8 j = if j = n then 0 else M 8 j := by intro j; simp [m_lamp, o_e, hn9]
  have S9 : ∀ j, m_lamp M v 9 j = M 9 j := by intro j; simp [m_lamp, o_e]
  have S10 : ∀ j, m_lamp M v 10 j = M 10 j := by intro j; simp [m_lamp, o_e]
  refine ⟨⟨?_, ?_, ?_, ?_, ?_, ?_, ?_⟩, fun i hi => ?_, fun i hi => ?_, fun i hi => ?_⟩
  · rw [E, S0]; (repeat' split) <;> omega
  · rw [E, S0]; (repeat' split) <;> omega
  · rw [E, S0]; (repeat' split) <;> omega
  · rw [E, S0]; (repeat' split) <;> omega
  · rw [E, S0]; (repeat' split) <;> omega
  · rw [E, S0]; (repeat' split) <;> omega
  · rw [E, S0]; (repeat' split) <;> omega
  · rw [S0] at hi
    rw [if_neg (by decide)] at hi
    have t := hS i hi
    refine ⟨?_, ?_, ?_⟩ <;> rw [E] <;> first
      | (rw [S1]; (repeat' split) <;> omega)
      | (rw [S2]; (repeat' split) <;> omega)
      | (rw [S3]; (repeat' split) <;> omega)
  · rw [S0] at hi
    rw [if_pos rfl] at hi
    have t := hL i
    refine ⟨?_, ?_, ?_, ?_, ?_⟩ <;> rw [E] <;> first
      | (rw [S4]; (repeat' split) <;> omega)
      | (rw [S5]; (repeat' split) <;> omega)
      | (rw [S6]; (repeat' split) <;> omega)
      | (rw [S7]; (repeat' split) <;> omega)
      | (rw [S8]; (repeat' split) <;> omega)
  · rw [S0] at hi
    rw [if_neg (by decide)] at hi
    have t := hQ i hi
    refine ⟨?_, ?_⟩ <;> rw [E] <;> first
      | (rw [S9]; (repeat' split) <;> omega)
      | (rw [S10]; (repeat' split) <;> omega)
theorem sr_req {g M : Nat → Nat → Int} {x t : Int} (h : o_sr (g 193) M) (b0 : M 0 0 ≤ 6) (b1 : M 0 1 ≤ 8) (b6 : M 0 6 ≤ 8) (hc0 : 0 ≤ M 0 6) {n : Nat} (hn : (n : Int) = M 0 6) (hn8 : n < 8) {g1 : Nat → Nat → Int} (E : ∀ j, g1 193 j = if j = 6 then M 0 6 + 1 else if j = 65 + 2 * n + 1 then t else if j = 65 + 2 * n then x else g 193 j) : o_sr (g1 193) (m_req M x t) := by
  obtain ⟨⟨a0, a1, a2, a3, a4, a5, a6⟩, hS, hL, hQ⟩ := h
  have hn9 : (M 0 6).toNat = n := by omega
  have S0 : ∀ j, m_req M x t 0 j = if j = 6 then M 0 6 + 1 else M 0 j := by intro j; simp [m_req, o_e]
  have S1 : ∀ j, m_req M x t 1 j = M 1 j := by intro j; simp [m_req, o_e]
  have S2 : ∀ j, m_req M x t 2 j = M 2 j := by intro j; simp [m_req, o_e]
  have S3 : ∀ j, m_req M x t 3 j = M 3 j := by intro j; simp [m_req, o_e]
  have S4 : ∀ j, m_req M x t 4 j = M 4 j := by intro j; simp [m_req, o_e]
  have S5 : ∀ j, m_req M x t 5 j = M 5 j := by intro j; simp [m_req, o_e]
  have S6 : ∀ j, m_req M x t 6 j = M 6 j := by intro j; simp [m_req, o_e]
  have S7 : ∀ j, m_req M x t 7 j = M 7 j := by intro j; simp [m_req, o_e]
  have S8 : ∀ j, m_req M x t 8 j = M 8 j := by intro j; simp [m_req, o_e]
  have S9 : ∀ j, m_req M x t 9 j = if j = n then x else M 9 j := by intro j; simp [m_req, o_e, hn9]
  have S10 : ∀ j, m_req M x t 10 j = if j = n then t else M 10 j := by intro j; simp [m_req, o_e, hn9]
  refine ⟨⟨?_, ?_, ?_, ?_, ?_, ?_, ?_⟩, fun i hi => ?_, fun i hi => ?_, fun i hi => ?_⟩
  · rw [E, S0]; (repeat' split) <;> omega
  · rw [E, S0]; (repeat' split) <;> omega
  · rw [E, S0]; (repeat' split) <;> omega
  · rw [E, S0]; (repeat' split) <;> omega
  · rw [E, S0]; (repeat' split) <;> omega
  · rw [E, S0]; (repeat' split) <;> omega
  · rw [E, S0]; (repeat' split) <;> omega
  · rw [S0] at hi
    rw [if_neg (by decide)] at hi
    have t := hS i hi
    refine ⟨?_, ?_, ?_⟩ <;> rw [E] <;> first
      | (rw [S1]; (repeat' split) <;> omega)
      | (rw [S2]; (repeat' split) <;> omega)
      | (rw [S3]; (repeat' split) <;> omega)
  · rw [S0] at hi
    rw [if_neg (by decide)] at hi
    have t := hL i hi
    refine ⟨?_, ?_, ?_, ?_, ?_⟩ <;> rw [E] <;> first
      | (rw [S4]; (repeat' split) <;> omega)
      | (rw [S5]; (repeat' split) <;> omega)
      | (rw [S6]; (repeat' split) <;> omega)
      | (rw [S7]; (repeat' split) <;> omega)
      | (rw [S8]; (repeat' split) <;> omega)
  · rw [S0] at hi
    rw [if_pos rfl] at hi
    have t := hQ i
    refine ⟨?_, ?_⟩ <;> rw [E] <;> first
      | (rw [S9]; (repeat' split) <;> omega)
      | (rw [S10]; (repeat' split) <;> omega)
