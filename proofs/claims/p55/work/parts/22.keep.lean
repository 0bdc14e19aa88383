/-! what the numbers keep to, step by step -/
def o_fd (s : (Nat → Nat → Int) → Nat → (Nat → Nat → Int)) (M : Nat → Nat → Int) : Nat → (Nat → Nat → Int)
  | 0 => M
  | n + 1 => s (o_fd s M n) n
theorem o_fd_ind {s : (Nat → Nat → Int) → Nat → (Nat → Nat → Int)} {M : Nat → Nat → Int} (P : (Nat → Nat → Int) → Prop) (N : Nat) (h0 : P M) (hs : ∀ M i, i < N → P M → P (s M i)) : ∀ n, n ≤ N → P (o_fd s M n) := by
  intro n
  induction n with
  | zero => exact fun _ => h0
  | succ n ih => exact fun h => hs _ _ (by omega) (ih (by omega))
def m_renew1' (M : Nat → Nat → Int) (k : Nat) : Nat → Nat → Int := m_renew1 M (M 9 k).toNat (M 10 k)
def m_burn1 (M : Nat → Nat → Int) (i : Nat) : Nat → Nat → Int := if 0 < M 5 i ∧ M 4 i ≤ M 0 2 then o_e (o_e (o_e M 8 i 1) 0 2 (M 0 2 - M 4 i)) 7 i (M 7 i + 1) else o_e M 8 i 0
def m_cnt (M : Nat → Nat → Int) (i : Int) : Int := o_sm (fun j => o_b (M 5 j = i + 1)) (M 0 1).toNat
def m_any (M : Nat → Nat → Int) (i : Int) : Int := o_sm (fun j => o_b (M 5 j = i + 1 ∧ M 8 j = 1)) (M 0 1).toNat
def m_fine1 (M : Nat → Nat → Int) (i : Nat) : Nat → Nat → Int := if 0 < m_cnt M i ∧ ¬ 0 < m_any M i then o_e (o_e (m_pay M i (min (2 * m_cnt M i) (M 1 i))) 2 i (M 2 i + min (2 * m_cnt M i) (M 1 i))) 3 i (M 3 i + 1) else M
def m_end1 (M : Nat → Nat → Int) (i : Nat) : Nat → Nat → Int := if 0 < M 5 i ∧ M 6 i = M 0 3 then m_free M i else M
def n_end (M : Nat → Nat → Int) : Nat → Int
  | 0 => 0
  | n + 1 => n_end M n + o_b (0 < (o_fd m_end1 M n) 5 n ∧ (o_fd m_end1 M n) 6 n = (o_fd m_end1 M n) 0 3)
def m_renews (M : Nat → Nat → Int) : Nat → Nat → Int := o_e (o_fd m_renew1' M (M 0 6).toNat) 0 6 0
def m_burns (M : Nat → Nat → Int) : Nat → Nat → Int := o_fd m_burn1 M (M 0 1).toNat
def m_fines (M : Nat → Nat → Int) : Nat → Nat → Int := o_fd m_fine1 M (M 0 0).toNat
def m_tick (M : Nat → Nat → Int) : Nat → Nat → Int := o_e M 0 3 (M 0 3 + 1)
def m_ends (M : Nat → Nat → Int) : Nat → Nat → Int := o_fd m_end1 M (M 0 1).toNat
/-- an hour -/
def m_pre (M : Nat → Nat → Int) : Nat → Nat → Int := m_tick (m_fines (m_burns (m_renews M)))
def m_hour (M : Nat → Nat → Int) : Nat → Nat → Int := m_ends (m_pre M)
def n_hour (M : Nat → Nat → Int) : Int := n_end (m_pre M) (m_pre M 0 1).toNat
def m_hour1 (M : Nat → Nat → Int) (_ : Nat) : Nat → Nat → Int := m_hour M
def m_pass (M : Nat → Nat → Int) : Nat → (Nat → Nat → Int) := o_fd m_hour1 M
def n_pass (M : Nat → Nat → Int) : Nat → Int
  | 0 => 0
  | n + 1 => n_pass M n + n_hour (m_pass M n)
theorem wk_3 {M : Nat → Nat → Int} (h : o_wk M) (i : Nat) (z : Int) : o_wk (o_e M 3 i z) := h
theorem wk_7 {M : Nat → Nat → Int} (h : o_wk M) (i : Nat) (z : Int) : o_wk (o_e M 7 i z) := h
theorem wk_04 {M : Nat → Nat → Int} (h : o_wk M) (z : Int) : o_wk (o_e M 0 4 z) := h
theorem wk_05 {M : Nat → Nat → Int} (h : o_wk M) (z : Int) : o_wk (o_e M 0 5 z) := h
theorem wk_02 {M : Nat → Nat → Int} (h : o_wk M) {z : Int} (h0 : 0 ≤ z) (h1 : z ≤ 500) : o_wk (o_e M 0 2 z) := ⟨h.1, h.2.1, h.2.2.1, ⟨h0, h1⟩, h.2.2.2.2⟩
theorem o_n0 {k : Nat} {P : Prop} (h : (k : Int) < 0) : P := absurd h (by omega)
theorem wk_06 {M : Nat → Nat → Int} (h : o_wk M) : o_wk (o_e M 0 6 0) := ⟨h.1, h.2.1, ⟨Int.le_refl 0, (by decide : (0 : Int) ≤ 8), fun k (hk : (k : Int) < 0) => o_n0 hk⟩, h.2.2.2.1, h.2.2.2.2.1, fun k (hk : (k : Int) < 0) => o_n0 hk, fun k _ (hk : (k : Int) < 0) => o_n0 hk⟩
theorem wk_8 {M : Nat → Nat → Int} (h : o_wk M) (i : Nat) {z : Int} (hz : z = 0 ∨ z = 1) : o_wk (o_e M 8 i z) := by
  refine ⟨h.1, ⟨h.2.1.1, h.2.1.2.1, h.2.1.2.2.1, h.2.1.2.2.2.1, fun j hj => ?_⟩, h.2.2⟩
  obtain ⟨a1, a2, a3, a4, a5⟩ := h.2.1.2.2.2.2 j hj
  refine ⟨a1, a2, a3, a4, ?_⟩
  by_cases q : j = i
  · simp [o_e, q, hz]
  · simpa [o_e, q] using a5
theorem wk_03 {M : Nat → Nat → Int} (h : o_wk M) (h1 : M 0 3 < 2000000) : o_wk (o_e M 0 3 (M 0 3 + 1)) := by
  obtain ⟨hws, ⟨b1, b2, b3, b4, b5⟩, hwq, hwo, hwle, hrest⟩ := h
  refine ⟨hws, ⟨b1, b2, ?_, ?_, fun j hj => ?_⟩, hwq, hwo, fun j hj h0 => ?_, hrest⟩
  · show 0 ≤ M 0 3 + 1; omega
  · show M 0 3 + 1 ≤ 2000000; omega
  · obtain ⟨a1, a2, a3, a4⟩ := b5 j hj
    refine ⟨a1, a2, ?_, a4⟩
    show 0 ≤ M 6 j ∧ M 6 j ≤ M 0 3 + 1 + 100
    omega
  · have t := hwle j hj h0
    show M 6 j - (M 0 3 + 1) + M 1 (M 5 j - 1).toNat ≤ 100
    omega
theorem wk_1 {M : Nat → Nat → Int} (h : o_wk M) (s : Nat) {z : Int} (h0 : 0 ≤ z) (h1 : z ≤ M 1 s) : o_wk (o_e M 1 s z) := by
  obtain ⟨⟨a1, a2, a3⟩, b, hwq, hwo, hwle, hrest⟩ := h
  refine ⟨⟨a1, a2, fun i hi => ?_⟩, b, hwq, hwo, fun j hj hj0 => ?_, hrest⟩
  · have t := a3 i hi
    show (0 ≤ o_e M 1 s z 1 i ∧ o_e M 1 s z 1 i ≤ 100) ∧ (0 ≤ M 2 i ∧ M 2 i ≤ 100) ∧ M 2 i + o_e M 1 s z 1 i ≤ 100
    by_cases q : i = s
    · subst q; rw [o_e_s]; omega
    · rw [o_e_k q]; exact t
  · have t := hwle j hj hj0
    show M 6 j - M 0 3 + o_e M 1 s z 1 (M 5 j - 1).toNat ≤ 100
    by_cases q : (M 5 j - 1).toNat = s
    · rw [q, o_e_s]; rw [q] at t; omega
    · rw [o_e_k q]; exact t
theorem wk_2 {M : Nat → Nat → Int} (h : o_wk M) (s : Nat) {z : Int} (h0 : 0 ≤ z) (h1 : z + M 1 s ≤ 100) (h2 : 0 ≤ M 1 s) : o_wk (o_e M 2 s z) := by
  obtain ⟨⟨a1, a2, a3⟩, b, hrest⟩ := h
  refine ⟨⟨a1, a2, fun i hi => ?_⟩, b, hrest⟩
  have t := a3 i hi
  show (0 ≤ M 1 i ∧ M 1 i ≤ 100) ∧ (0 ≤ o_e M 2 s z 2 i ∧ o_e M 2 s z 2 i ≤ 100) ∧ o_e M 2 s z 2 i + M 1 i ≤ 100
  by_cases q : i = s
  · subst q; rw [o_e_s]; omega
  · rw [o_e_k q]; exact t
theorem wk_6 {M : Nat → Nat → Int} (h : o_wk M) (x : Nat) {z : Int} (h0 : 0 ≤ z) (h1 : z ≤ M 0 3 + 100) (h2 : 0 < M 5 x → z - M 0 3 + M 1 (M 5 x - 1).toNat ≤ 100) : o_wk (o_e M 6 x z) := by
  obtain ⟨hws, ⟨b1, b2, b3, b4, b5⟩, hwq, hwo, hwle, hrest⟩ := h
  refine ⟨hws, ⟨b1, b2, b3, b4, fun j hj => ?_⟩, hwq, hwo, fun j hj hj0 => ?_, hrest⟩
  · obtain ⟨a1, a2, a3, a4⟩ := b5 j hj
    refine ⟨a1, a2, ?_, a4⟩
    show 0 ≤ o_e M 6 x z 6 j ∧ o_e M 6 x z 6 j ≤ M 0 3 + 100
    by_cases q : j = x
    · subst q; rw [o_e_s]; exact ⟨h0, h1⟩
    · rw [o_e_k q]; exact a3
  · have t := hwle j hj hj0
    show o_e M 6 x z 6 j - M 0 3 + M 1 (M 5 j - 1).toNat ≤ 100
    by_cases q : j = x
    · subst q; rw [o_e_s]; exact h2 hj0
    · rw [o_e_k q]; exact t
theorem wk_pay {M : Nat → Nat → Int} (h : o_wk M) (s : Nat) {c : Int} (h0 : 0 ≤ c) (h1 : c ≤ M 1 s) : o_wk (m_pay M s c) := wk_05 (wk_1 h s (by omega) (by omega)) _
theorem wk_free {M : Nat → Nat → Int} (h : o_wk M) (x : Nat) (hx : (x : Int) < M 0 1) : o_wk (m_free M x) := by
  obtain ⟨hws, ⟨b1, b2, b3, b4, b5⟩, ⟨c1, c2, c3⟩, hwo, hwle, hlsd, hdis⟩ := h
  have hp := o_ps_fst (fun i => M 9 i = (x : Int)) (M 0 6).toNat
  unfold m_free
  rw [show o_ps (fun i => M 9 i = (x : Int)) (M 0 6).toNat = m_pos M x from rfl] at hp
  revert hp
  generalize m_pos M x = r
  intro hp
  have e0 : ∀ a j, a ≠ 9 → a ≠ 10 → ¬ (a = 0 ∧ j = 6) → a ≠ 5 → a ≠ 6 → m_cut (o_e (o_e M 5 x 0) 6 x 0) r a j = M a j := by
    intro a j q1 q2 q3 q4 q5
    by_cases c : r = -1 <;> simp [m_cut, c, o_e, q1, q2, q4, q5]
    intro q6 q7
    exact absurd ⟨q6, q7⟩ q3
  have e5 : ∀ j, m_cut (o_e (o_e M 5 x 0) 6 x 0) r 5 j = if j = x then 0 else M 5 j := by
    intro j
    by_cases c : r = -1 <;> simp [m_cut, c, o_e]
  have e6 : ∀ j, m_cut (o_e (o_e M 5 x 0) 6 x 0) r 6 j = if j = x then 0 else M 6 j := by
    intro j
    by_cases c : r = -1 <;> simp [m_cut, c, o_e]
  have e06 : m_cut (o_e (o_e M 5 x 0) 6 x 0) r 0 6 = if r = -1 then M 0 6 else M 0 6 - 1 := by
    by_cases c : r = -1 <;> simp [m_cut, c, o_e]
  have e9 : ∀ a j, a = 9 ∨ a = 10 → m_cut (o_e (o_e M 5 x 0) 6 x 0) r a j = M a (if r ≠ -1 ∧ r ≤ j then j + 1 else j) := by
    intro a j ha
    rcases ha with rfl | rfl <;> by_cases c : r = -1 <;> by_cases c2 : r ≤ j <;> simp [m_cut, c, c2, o_e]
  have hsh : ∀ k : Nat, (k : Int) < (if r = -1 then M 0 6 else M 0 6 - 1) → ((if r ≠ -1 ∧ r ≤ k then k + 1 else k : Nat) : Int) < M 0 6 ∧ M 9 (if r ≠ -1 ∧ r ≤ k then k + 1 else k) ≠ x := by
    intro k hk
    rcases hp with ⟨rfl, hp⟩ | ⟨j, rfl, hj, hj2, hj3⟩
    · simp only [if_true, ne_eq, not_true_eq_false, false_and, if_false] at hk ⊢
      exact ⟨hk, hp k (by omega)⟩
    · rw [if_neg (by omega)] at hk
      by_cases c : j ≤ k
      · rw [if_pos ⟨by omega, by omega⟩]
        refine ⟨by omega, fun q => ?_⟩
        have := hdis (k + 1) j (by omega) (by omega) (by omega)
        omega
      · rw [if_neg (by omega)]
        exact ⟨by omega, hj3 k (by omega)⟩
  refine ⟨⟨?_, ?_, fun i hi => ?_⟩, ⟨?_, ?_, ?_, ?_, fun i hi => ?_⟩, ⟨?_, ?_, fun k hk => ?_⟩, ?_, fun i hi h0 => ?_, fun k hk => ?_, fun k k' hk hk' hkk => ?_⟩
  · rw [e0 0 0 (by decide) (by decide) (by decide) (by decide) (by decide)]; exact hws.1
  · rw [e0 0 0 (by decide) (by decide) (by decide) (by decide) (by decide)]; exact hws.2.1
  · rw [e0 0 0 (by decide) (by decide) (by decide) (by decide) (by decide)] at hi
    rw [e0 1 i (by decide) (by decide) (by simp) (by decide) (by decide), e0 2 i (by decide) (by decide) (by simp) (by decide) (by decide)]
    exact hws.2.2 i hi
  · rw [e0 0 1 (by decide) (by decide) (by decide) (by decide) (by decide)]; exact b1
  · rw [e0 0 1 (by decide) (by decide) (by decide) (by decide) (by decide)]; exact b2
  · rw [e0 0 3 (by decide) (by decide) (by decide) (by decide) (by decide)]; exact b3
  · rw [e0 0 3 (by decide) (by decide) (by decide) (by decide) (by decide)]; exact b4
  · rw [e0 0 1 (by decide) (by decide) (by decide) (by decide) (by decide)] at hi
    rw [e0 4 i (by decide) (by decide) (by simp) (by decide) (by decide), e0 8 i (by decide) (by decide) (by simp) (by decide) (by decide), e0 0 3 (by decide) (by decide) (by decide) (by decide) (by decide), e0 0 0 (by decide) (by decide) (by decide) (by decide) (by decide), e5, e6]
    obtain ⟨a1, a2, a3, a4, a5⟩ := b5 i hi
    refine ⟨a1, ?_, ?_, ?_, a5⟩ <;> split <;> first | omega | assumption | (have := hws.1; omega)
  · rw [e06]
    rcases hp with ⟨rfl, hp⟩ | ⟨j, rfl, hj, hj2, hj3⟩
    · rw [if_pos rfl]; exact c1
    · rw [if_neg (by omega)]; omega
  · rw [e06]; split <;> omega
  · rw [e06] at hk
    rw [e9 9 k (Or.inl rfl), e9 10 k (Or.inr rfl), e0 0 1 (by decide) (by decide) (by decide) (by decide) (by decide)]
    exact c3 _ (hsh k hk).1
  · rw [e0 0 2 (by decide) (by decide) (by decide) (by decide) (by decide)]; exact hwo
  · rw [e0 0 1 (by decide) (by decide) (by decide) (by decide) (by decide)] at hi
    rw [e5] at h0
    rw [e0 0 3 (by decide) (by decide) (by decide) (by decide) (by decide), e5, e6, e0 1 _ (by decide) (by decide) (by simp) (by decide) (by decide)]
    by_cases q : i = x
    · rw [if_pos q] at h0; omega
    · rw [if_neg q] at h0 ⊢
      rw [if_neg q]
      exact hwle i hi h0
  · rw [e06] at hk
    have t := hsh k hk
    have t2 := hlsd _ t.1
    have t3 := c3 _ t.1
    rw [e9 9 k (Or.inl rfl), e5, if_neg (by omega)]
    exact t2
  · rw [e06] at hk hk'
    have t := hsh k hk
    have t' := hsh k' hk'
    rw [e9 9 k (Or.inl rfl), e9 9 k' (Or.inl rfl)] at hkk
    have := hdis _ _ t.1 t'.1 hkk
    revert this
    split <;> split <;> omega
