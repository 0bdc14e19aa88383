/-! what the numbers keep to, behind each change that is allowed; the commands, as numbers -/
theorem o_sm_cg {f g : Nat → Int} {n : Nat} (h : ∀ i, i < n → f i = g i) : o_sm f n = o_sm g n := by
  induction n with
  | zero => rfl
  | succ n ih =>
    simp only [o_sm]
    rw [ih (fun i hi => h i (by omega)), h n (Nat.lt_succ_self n)]
theorem wf_ship {M : Nat → Nat → Int} (h : o_wf M) (hr : r_ship M = 0) : o_wf (m_ship M) := by
  have hn : M 0 0 < 6 := by unfold r_ship at hr; split at hr <;> omega
  obtain ⟨⟨⟨s0, s1, s2⟩, ⟨l0, l1, l2, l3, l4⟩, ⟨q0, q1, q2⟩, ho, hle, hrq, hrd⟩, hh, hc, he⟩ := h
  obtain ⟨k, hk⟩ : ∃ k : Nat, (M 0 0).toNat = k := ⟨_, rfl⟩
  have v00 : m_ship M 0 0 = M 0 0 + 1 := by simp [m_ship, o_e]
  have v0 : ∀ j, j ≠ 0 → m_ship M 0 j = M 0 j := fun j hj => by simp [m_ship, o_e, hj]
  have v1 : ∀ j, m_ship M 1 j = if j = k then 100 else M 1 j := fun j => by simp [m_ship, o_e, hk]
  have v2 : ∀ j, m_ship M 2 j = if j = k then 0 else M 2 j := fun j => by simp [m_ship, o_e, hk]
  have va : ∀ a j, 4 ≤ a → m_ship M a j = M a j := fun a j ha => by
    have h0 : a ≠ 0 := by omega
    have h1 : a ≠ 1 := by omega
    have h2 : a ≠ 2 := by omega
    have h3 : a ≠ 3 := by omega
    simp [m_ship, o_e, h0, h1, h2, h3]
  refine ⟨⟨⟨by omega, by omega, fun i hi => ?_⟩, ⟨by rw [v0 1 (by decide)]; exact l0, by rw [v0 1 (by decide)]; exact l1, by rw [v0 3 (by decide)]; exact l2, by rw [v0 3 (by decide)]; exact l3, fun i hi => ?_⟩, ⟨by rw [v0 6 (by decide)]; exact q0, by rw [v0 6 (by decide)]; exact q1, fun i hi => ?_⟩, by rw [v0 2 (by decide)]; exact ho, fun i hi h0 => ?_, fun i hi => ?_, fun i j hi hj e => ?_⟩, by rw [v0 3 (by decide)]; exact hh, ?_, fun i hi h0 => ?_⟩
  · rw [v00] at hi
    rw [v1, v2]
    by_cases c : i = k
    · rw [if_pos c, if_pos c]; omega
    · rw [if_neg c, if_neg c]; exact s2 i (by omega)
  · rw [v0 1 (by decide)] at hi
    rw [va 4 _ (by decide), va 5 _ (by decide), va 6 _ (by decide), va 8 _ (by decide), v0 3 (by decide), v00]
    have := l4 i hi
    omega
  · rw [v0 6 (by decide)] at hi
    rw [va 9 _ (by decide), va 10 _ (by decide), v0 1 (by decide)]
    exact q2 i hi
  · rw [v0 1 (by decide)] at hi
    rw [va 5 _ (by decide)] at h0 ⊢
    rw [va 6 _ (by decide), v0 3 (by decide), v1, if_neg (by have := l4 i hi; omega)]
    exact hle i hi h0
  · rw [v0 6 (by decide)] at hi
    rw [va 9 _ (by decide), va 5 _ (by decide)]
    exact hrq i hi
  · rw [v0 6 (by decide)] at hi hj
    rw [va 9 _ (by decide), va 9 _ (by decide)] at e
    exact hrd i j hi hj e
  · rw [v00, v0 5 (by decide), show (M 0 0 + 1).toNat = k + 1 by omega]
    simp only [o_sm]
    rw [v1, if_pos rfl, o_sm_cg (g := fun i => M 1 i) (fun i hi => by rw [v1, if_neg (by omega)])]
    rw [hk] at hc
    omega
  · rw [v0 1 (by decide)] at hi
    rw [va 5 _ (by decide)] at h0
    rw [va 6 _ (by decide), v0 3 (by decide)]
    exact he i hi h0
theorem wf_lamp {M : Nat → Nat → Int} {v : Int} (h : o_wf M) (hr : r_lamp M v = 0) : o_wf (m_lamp M v) := by
  have hn : M 0 1 < 8 ∧ 1 ≤ v ∧ v ≤ 3 := by unfold r_lamp at hr; split at hr <;> (try split at hr) <;> omega
  obtain ⟨⟨⟨s0, s1, s2⟩, ⟨l0, l1, l2, l3, l4⟩, ⟨q0, q1, q2⟩, ho, hle, hrq, hrd⟩, hh, hc, he⟩ := h
  obtain ⟨k, hk⟩ : ∃ k : Nat, (M 0 1).toNat = k := ⟨_, rfl⟩
  have v01 : m_lamp M v 0 1 = M 0 1 + 1 := by simp [m_lamp, o_e]
  have v0 : ∀ j, j ≠ 1 → m_lamp M v 0 j = M 0 j := fun j hj => by simp [m_lamp, o_e, hj]
  have v4 : ∀ j, m_lamp M v 4 j = if j = k then v else M 4 j := fun j => by simp [m_lamp, o_e, hk]
  have v5 : ∀ j, m_lamp M v 5 j = if j = k then 0 else M 5 j := fun j => by simp [m_lamp, o_e, hk]
  have v6 : ∀ j, m_lamp M v 6 j = if j = k then 0 else M 6 j := fun j => by simp [m_lamp, o_e, hk]
  have v8 : ∀ j, m_lamp M v 8 j = if j = k then 0 else M 8 j := fun j => by simp [m_lamp, o_e, hk]
  have va : ∀ a j, (1 ≤ a ∧ a ≤ 3) ∨ 9 ≤ a → m_lamp M v a j = M a j := fun a j ha => by
    have h0 : a ≠ 0 := by omega
    have h4 : a ≠ 4 := by omega
    have h5 : a ≠ 5 := by omega
    have h6 : a ≠ 6 := by omega
    have h7 : a ≠ 7 := by omega
    have h8 : a ≠ 8 := by omega
    simp [m_lamp, o_e, h0, h4, h5, h6, h7, h8]
  refine ⟨⟨⟨by rw [v0 0 (by decide)]; exact s0, by rw [v0 0 (by decide)]; exact s1, fun i hi => ?_⟩, ⟨by omega, by omega, by rw [v0 3 (by decide)]; exact l2, by rw [v0 3 (by decide)]; exact l3, fun i hi => ?_⟩, ⟨by rw [v0 6 (by decide)]; exact q0, by rw [v0 6 (by decide)]; exact q1, fun i hi => ?_⟩, by rw [v0 2 (by decide)]; exact ho, fun i hi h0 => ?_, fun i hi => ?_, fun i j hi hj e => ?_⟩, by rw [v0 3 (by decide)]; exact hh, ?_, fun i hi h0 => ?_⟩
  · rw [v0 0 (by decide)] at hi
    rw [va 1 _ (by decide), va 2 _ (by decide)]
    exact s2 i hi
  · rw [v01] at hi
    rw [v4, v5, v6, v8, v0 3 (by decide), v0 0 (by decide)]
    by_cases c : i = k
    · rw [if_pos c, if_pos c, if_pos c, if_pos c]; exact ⟨⟨by omega, by omega⟩, ⟨by omega, by omega⟩, ⟨by omega, by omega⟩, by omega, Or.inl rfl⟩
    · simp only [if_neg c]; exact l4 i (by omega)
  · rw [v0 6 (by decide)] at hi
    rw [va 9 _ (by decide), va 10 _ (by decide), v01]
    have := q2 i hi
    omega
  · rw [v01] at hi
    by_cases c : i = k
    · rw [v5, if_pos c] at h0; omega
    · rw [v5, if_neg c] at h0
      rw [v6, v5, if_neg c, if_neg c, v0 3 (by decide), va 1 _ (by decide)]
      exact hle i (by omega) h0
  · rw [v0 6 (by decide)] at hi
    have := q2 i hi
    rw [va 9 _ (by decide), v5, if_neg (by omega)]
    exact hrq i hi
  · rw [v0 6 (by decide)] at hi hj
    rw [va 9 _ (by decide), va 9 _ (by decide)] at e
    exact hrd i j hi hj e
  · rw [v0 0 (by decide), v0 5 (by decide), o_sm_cg (g := fun i => M 1 i) (fun i hi => va 1 i (by decide))]
    exact hc
  · rw [v01] at hi
    by_cases c : i = k
    · rw [v5, if_pos c] at h0; omega
    · rw [v5, if_neg c] at h0
      rw [v6, if_neg c, v0 3 (by decide)]
      exact he i (by omega) h0
theorem wf_oil {M : Nat → Nat → Int} {u : Int} (h : o_wf M) (hr : r_oil M u = 0) : o_wf (m_oil M u) := by
  have ho := h.1.2.2.2.1
  have hn : 1 ≤ u ∧ M 0 2 + u ≤ 500 := by unfold r_oil at hr; split at hr <;> (try split at hr) <;> omega
  exact ⟨wk_02 h.1 (by omega) (by omega), h.2⟩
theorem wf_lease {M : Nat → Nat → Int} {s x t : Int} (h : o_wf M) (hr : r_lease M s x t = 0) : o_wf (m_lease M s.toNat x.toNat t) := by
  have hn : (0 ≤ s ∧ s < M 0 0) ∧ (0 ≤ x ∧ x < M 0 1) ∧ (1 ≤ t ∧ t ≤ 24) ∧ ¬ 0 < M 5 x.toNat ∧ M 4 x.toNat * t ≤ M 1 s.toNat := by
    unfold r_lease at hr
    split at hr
    · omega
    · split at hr
      · omega
      · split at hr
        · omega
        · split at hr
          · rename_i a b c e
            refine ⟨by omega, by omega, by omega, c, e⟩
          · omega
  obtain ⟨hs, hx, ht, h5, h4⟩ := hn
  obtain ⟨k, rfl⟩ : ∃ k : Nat, (k : Int) = s := ⟨s.toNat, by omega⟩
  obtain ⟨j0, rfl⟩ : ∃ j0 : Nat, (j0 : Int) = x := ⟨x.toNat, by omega⟩
  simp only [Int.toNat_natCast] at h5 h4 ⊢
  have hwk := h.1
  obtain ⟨⟨⟨s0, s1, s2⟩, ⟨l0, l1, l2, l3, l4⟩, ⟨q0, q1, q2⟩, ho, hle, hrq, hrd⟩, hh, hc, he⟩ := h
  obtain ⟨c, hcc⟩ : ∃ c, M 4 j0 * t = c := ⟨_, rfl⟩
  have hct : t ≤ c := by
    have := (l4 j0 hx.2).1
    rcases (by omega : M 4 j0 = 1 ∨ M 4 j0 = 2 ∨ M 4 j0 = 3) with q | q | q <;> rw [q] at hcc <;> omega
  rw [hcc] at h4
  have hp := ke_pay hwk k hs.2 (c := c) (by omega) h4
  have v0 : ∀ j, j ≠ 5 → m_lease M k j0 t 0 j = M 0 j := fun j hj => by simp [m_lease, m_pay, o_e, hj]
  have v05 : m_lease M k j0 t 0 5 = M 0 5 + c := by simp [m_lease, m_pay, o_e, hcc]
  have v1 : ∀ j, m_lease M k j0 t 1 j = if j = k then M 1 k - c else M 1 j := fun j => by
    by_cases q : j = k
    · subst q; simp [m_lease, m_pay, o_e, hcc]
    · simp [m_lease, m_pay, o_e, hcc, q]
  have v5 : ∀ j, m_lease M k j0 t 5 j = if j = j0 then (k : Int) + 1 else M 5 j := fun j => by simp [m_lease, m_pay, o_e]
  have v6 : ∀ j, m_lease M k j0 t 6 j = if j = j0 then M 0 3 + t else M 6 j := fun j => by simp [m_lease, m_pay, o_e]
  have va : ∀ a j, a ≠ 0 → a ≠ 1 → a ≠ 5 → a ≠ 6 → m_lease M k j0 t a j = M a j := fun a j h0 h1 h5 h6 => by simp [m_lease, m_pay, o_e, h0, h1, h5, h6]
  have hl0 := l4 j0 hx.2
  refine ⟨⟨⟨by rw [v0 0 (by decide)]; exact s0, by rw [v0 0 (by decide)]; exact s1, fun i hi => ?_⟩, ⟨by rw [v0 1 (by decide)]; exact l0, by rw [v0 1 (by decide)]; exact l1, by rw [v0 3 (by decide)]; exact l2, by rw [v0 3 (by decide)]; exact l3, fun i hi => ?_⟩, ⟨by rw [v0 6 (by decide)]; exact q0, by rw [v0 6 (by decide)]; exact q1, fun i hi => ?_⟩, by rw [v0 2 (by decide)]; exact ho, fun i hi h0 => ?_, fun i hi => ?_, fun i j hi hj e => ?_⟩, by rw [v0 3 (by decide)]; exact hh, ?_, fun i hi h0 => ?_⟩
  · rw [v0 0 (by decide)] at hi
    rw [va 2 _ (by decide) (by decide) (by decide) (by decide), v1]
    have := s2 i hi
    have hk := s2 k hs.2
    by_cases q : i = k
    · rw [if_pos q]; subst q; omega
    · rw [if_neg q]; exact this
  · rw [v0 1 (by decide)] at hi
    rw [va 4 _ (by decide) (by decide) (by decide) (by decide), va 8 _ (by decide) (by decide) (by decide) (by decide), v5, v6, v0 3 (by decide), v0 0 (by decide)]
    have := l4 i hi
    by_cases q : i = j0
    · simp only [if_pos q]; omega
    · simp only [if_neg q]; exact this
  · rw [v0 6 (by decide)] at hi
    rw [va 9 _ (by decide) (by decide) (by decide) (by decide), va 10 _ (by decide) (by decide) (by decide) (by decide), v0 1 (by decide)]
    exact q2 i hi
  · rw [v0 1 (by decide)] at hi
    rw [v5] at h0
    rw [v6, v5, v0 3 (by decide), v1]
    have hk := s2 k hs.2
    by_cases q : i = j0
    · simp only [if_pos q]
      rw [if_pos (by omega)]
      omega
    · simp only [if_neg q] at h0 ⊢
      have := hle i hi h0
      split
      · rename_i e; rw [e] at this; omega
      · exact this
  · rw [v0 6 (by decide)] at hi
    rw [va 9 _ (by decide) (by decide) (by decide) (by decide), v5]
    split
    · omega
    · exact hrq i hi
  · rw [v0 6 (by decide)] at hi hj
    rw [va 9 _ (by decide) (by decide) (by decide) (by decide), va 9 _ (by decide) (by decide) (by decide) (by decide)] at e
    exact hrd i j hi hj e
  · rw [v0 0 (by decide), v05]
    have e1 := hp.2.2.2.2
    rw [o_sm_cg (g := fun i => m_pay M k c 1 i) (fun i hi => by
      rw [v1]
      by_cases q : i = k
      · subst q; simp [m_pay, o_e]
      · simp [m_pay, o_e, q])]
    have e2 : m_pay M k c 0 5 = M 0 5 + c := by simp [m_pay, o_e]
    rw [e2] at e1
    omega
  · rw [v0 1 (by decide)] at hi
    rw [v5] at h0
    rw [v6, v0 3 (by decide)]
    by_cases q : i = j0
    · simp only [if_pos q]; omega
    · simp only [if_neg q] at h0 ⊢; exact he i hi h0
/-- nine different numbers below eight: none -/
theorem pg_hole : ∀ (n : Nat) (f : Nat → Nat), (∀ i, i ≤ n → f i < n) → ∃ i j, i < j ∧ j ≤ n ∧ f i = f j := by
  intro n
  induction n with
  | zero => intro f h; exact absurd (h 0 (Nat.le_refl 0)) (Nat.not_lt_zero _)
  | succ n ih =>
    intro f h
    by_cases q : ∃ i, i ≤ n ∧ f i = f (n + 1)
    · obtain ⟨i, hi, e⟩ := q
      exact ⟨i, n + 1, by omega, Nat.le_refl _, e⟩
    · have q : ∀ i, i ≤ n → f i ≠ f (n + 1) := fun i hi e => q ⟨i, hi, e⟩
      obtain ⟨i, j, h1, h2, h3⟩ := ih (fun i => if f i < f (n + 1) then f i else f i - 1) (fun i hi => by
        have h1 := h i (by omega)
        have h2 := h (n + 1) (Nat.le_refl _)
        have h3 := q i hi
        show (if f i < f (n + 1) then f i else f i - 1) < n
        split <;> omega)
      refine ⟨i, j, h1, by omega, ?_⟩
      have q1 := q i (by omega)
      have q2 := q j h2
      have h3 : (if f i < f (n + 1) then f i else f i - 1) = (if f j < f (n + 1) then f j else f j - 1) := h3
      split at h3 <;> split at h3 <;> omega
theorem wf_req8 (f : Nat → Int) (x : Nat) (hx : x < 8) (hf : ∀ i, i < 8 → 0 ≤ f i ∧ f i < 8) (inj : ∀ i j : Nat, i < 8 → j < 8 → f i = f j → i = j) (hno : ∀ i, i < 8 → f i ≠ x) : False := by
  obtain ⟨i, j, h1, h2, h3⟩ := pg_hole 8 (fun i => if i = 8 then x else (f i).toNat) (fun i hi => by
    show (if i = 8 then x else (f i).toNat) < 8
    split
    · exact hx
    · have := hf i (by omega); omega)
  have h3 : (if i = 8 then x else (f i).toNat) = (if j = 8 then x else (f j).toNat) := h3
  rw [if_neg (by omega)] at h3
  have hi := hf i (by omega)
  split at h3
  · exact hno i (by omega) (by omega)
  · have hj := hf j (by omega)
    have := inj i j (by omega) (by omega) (by omega)
    omega
theorem wf_req {M : Nat → Nat → Int} {x t : Int} (h : o_wf M) (hr : r_req M x t = 0) : o_wf (m_req M x t) ∧ M 0 6 < 8 := by
  have hn : (0 ≤ x ∧ x < M 0 1) ∧ (1 ≤ t ∧ t ≤ 24) ∧ 0 < M 5 x.toNat ∧ m_pos M x.toNat = -1 := by
    unfold r_req at hr
    split at hr
    · omega
    · split at hr
      · omega
      · split at hr
        · omega
        · split at hr
          · rename_i a b c e
            exact ⟨by omega, by omega, by omega, e⟩
          · omega
  obtain ⟨hx, ht, h5, hm⟩ := hn
  obtain ⟨j0, rfl⟩ : ∃ j0 : Nat, (j0 : Int) = x := ⟨x.toNat, by omega⟩
  simp only [Int.toNat_natCast] at h5 hm ⊢
  obtain ⟨⟨⟨s0, s1, s2⟩, ⟨l0, l1, l2, l3, l4⟩, ⟨q0, q1, q2⟩, ho, hle, hrq, hrd⟩, hh, hc, he⟩ := h
  have hno : ∀ j : Nat, (j : Int) < M 0 6 → M 9 j ≠ j0 := by
    have h1 := o_ps_fst (fun i => M 9 i = (j0 : Int)) (M 0 6).toNat
    rw [show o_ps (fun i => M 9 i = (j0 : Int)) (M 0 6).toNat = -1 from hm] at h1
    rcases h1 with ⟨-, h1⟩ | ⟨i, h1, -⟩
    · exact fun j hj => h1 j (by omega)
    · omega
  obtain ⟨k, hk⟩ : ∃ k : Nat, (M 0 6).toNat = k := ⟨_, rfl⟩
  have hk8 : M 0 6 < 8 := by
    rcases Int.lt_or_le (M 0 6) 8 with q | q
    · exact q
    · exfalso
      have e8 : M 0 6 = 8 := by omega
      -- eight requests for different lamps, none for j0: nine lamps
      have inj : ∀ i j : Nat, i < 8 → j < 8 → M 9 i = M 9 j → i = j := fun i j hi hj => hrd i j (by omega) (by omega)
      have b0 := q2 0 (by omega); have b1 := q2 1 (by omega); have b2 := q2 2 (by omega); have b3 := q2 3 (by omega)
      have b4 := q2 4 (by omega); have b5 := q2 5 (by omega); have b6 := q2 6 (by omega); have b7 := q2 7 (by omega)
      exact wf_req8 (fun i => M 9 i) j0 (by omega) (fun i hi => by have := q2 i (by omega); omega) inj (fun i hi => hno i (by omega))
  refine ⟨?_, hk8⟩
  have v06 : m_req M j0 t 0 6 = M 0 6 + 1 := by simp [m_req, o_e]
  have v0 : ∀ j, j ≠ 6 → m_req M j0 t 0 j = M 0 j := fun j hj => by simp [m_req, o_e, hj]
  have v9 : ∀ j, m_req M j0 t 9 j = if j = k then (j0 : Int) else M 9 j := fun j => by simp [m_req, o_e, hk]
  have v10 : ∀ j, m_req M j0 t 10 j = if j = k then t else M 10 j := fun j => by simp [m_req, o_e, hk]
  have va : ∀ a j, a ≠ 0 → a ≠ 9 → a ≠ 10 → m_req M j0 t a j = M a j := fun a j h0 h1 h2 => by simp [m_req, o_e, h0, h1, h2]
  refine ⟨⟨⟨by rw [v0 0 (by decide)]; exact s0, by rw [v0 0 (by decide)]; exact s1, fun i hi => ?_⟩, ⟨by rw [v0 1 (by decide)]; exact l0, by rw [v0 1 (by decide)]; exact l1, by rw [v0 3 (by decide)]; exact l2, by rw [v0 3 (by decide)]; exact l3, fun i hi => ?_⟩, ⟨by omega, by omega, fun i hi => ?_⟩, by rw [v0 2 (by decide)]; exact ho, fun i hi h0 => ?_, fun i hi => ?_, fun i j hi hj e => ?_⟩, by rw [v0 3 (by decide)]; exact hh, ?_, fun i hi h0 => ?_⟩
  · rw [v0 0 (by decide)] at hi
    rw [va 1 _ (by decide) (by decide) (by decide), va 2 _ (by decide) (by decide) (by decide)]
    exact s2 i hi
  · rw [v0 1 (by decide)] at hi
    rw [va 4 _ (by decide) (by decide) (by decide), va 5 _ (by decide) (by decide) (by decide), va 6 _ (by decide) (by decide) (by decide), va 8 _ (by decide) (by decide) (by decide), v0 3 (by decide), v0 0 (by decide)]
    exact l4 i hi
  · rw [v06] at hi
    rw [v9, v10, v0 1 (by decide)]
    by_cases q : i = k
    · simp only [if_pos q]; omega
    · simp only [if_neg q]; exact q2 i (by omega)
  · rw [v0 1 (by decide)] at hi
    rw [va 5 _ (by decide) (by decide) (by decide)] at h0 ⊢
    rw [va 6 _ (by decide) (by decide) (by decide), va 1 _ (by decide) (by decide) (by decide), v0 3 (by decide)]
    exact hle i hi h0
  · rw [v06] at hi
    rw [va 5 _ (by decide) (by decide) (by decide), v9]
    by_cases q : i = k
    · rw [if_pos q]; exact h5
    · rw [if_neg q]; exact hrq i (by omega)
  · rw [v06] at hi hj
    rw [v9, v9] at e
    by_cases c1 : i = k
    · by_cases c2 : j = k
      · omega
      · rw [if_pos c1, if_neg c2] at e
        exact absurd e.symm (hno j (by omega))
    · by_cases c2 : j = k
      · rw [if_neg c1, if_pos c2] at e
        exact absurd e (hno i (by omega))
      · rw [if_neg c1, if_neg c2] at e
        exact hrd i j (by omega) (by omega) e
  · rw [v0 0 (by decide), v0 5 (by decide), o_sm_cg (g := fun i => M 1 i) (fun i hi => va 1 i (by decide) (by decide) (by decide))]
    exact hc
  · rw [v0 1 (by decide)] at hi
    rw [va 5 _ (by decide) (by decide) (by decide)] at h0
    rw [va 6 _ (by decide) (by decide) (by decide), v0 3 (by decide)]
    exact he i hi h0
theorem wf_free {M : Nat → Nat → Int} {x : Int} (h : o_wf M) (hr : r_unl M x = 0) : o_wf (m_free M x.toNat) := by
  have hn : 0 ≤ x ∧ x < M 0 1 := by unfold r_unl at hr; split at hr <;> (try split at hr) <;> omega
  obtain ⟨j0, rfl⟩ : ∃ j0 : Nat, (j0 : Int) = x := ⟨x.toNat, by omega⟩
  simp only [Int.toNat_natCast]
  have k := ke_free h.1 j0 hn.2
  refine ⟨k.1, by rw [k.2.2.2.1]; exact h.2.1, ?_, fun j hj h0 => ?_⟩
  · rw [k.2.1]
    have := k.2.2.2.2
    have := h.2.2.1
    omega
  · rw [k.2.2.1] at hj
    rw [free_5] at h0
    rw [free_6, k.2.2.2.1]
    by_cases q : j = j0
    · rw [if_pos q] at h0; omega
    · rw [if_neg q] at h0 ⊢; exact h.2.2.2 j hj h0
