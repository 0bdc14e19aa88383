theorem o_sm_e {M : Nat → Nat → Int} (a s : Nat) (z : Int) (n : Nat) : o_sm (fun i => o_e M a s z a i) n = o_sm (fun i => M a i) n + (if s < n then z - M a s else 0) := by
  induction n with
  | zero => simp [o_sm]
  | succ n ih =>
    simp only [o_sm, ih]
    by_cases c : n = s
    · subst c
      rw [o_e_s, if_neg (by omega), if_pos (by omega)]; omega
    · rw [o_e_k c]
      by_cases c2 : s < n
      · rw [if_pos c2, if_pos (by omega)]; omega
      · rw [if_neg c2, if_neg (by omega)]; omega
/-- what stays within a step -/
def o_ke (M M' : Nat → Nat → Int) : Prop := o_wk M' ∧ M' 0 0 = M 0 0 ∧ M' 0 1 = M 0 1 ∧ M' 0 3 = M 0 3 ∧ o_sm (fun i => M' 1 i) (M 0 0).toNat + M' 0 5 = o_sm (fun i => M 1 i) (M 0 0).toNat + M 0 5
theorem o_ke_t {M M1 M2 : Nat → Nat → Int} (h1 : o_ke M M1) (h2 : o_ke M1 M2) : o_ke M M2 := by
  obtain ⟨-, a1, a2, a3, a4⟩ := h1
  obtain ⟨b0, b1, b2, b3, b4⟩ := h2
  rw [a1] at b4
  exact ⟨b0, b1.trans a1, b2.trans a2, b3.trans a3, b4.trans a4⟩
theorem o_ke_r {M : Nat → Nat → Int} (h : o_wk M) : o_ke M M := ⟨h, rfl, rfl, rfl, rfl⟩
theorem ke_pay {M : Nat → Nat → Int} (h : o_wk M) (s : Nat) (hs : (s : Int) < M 0 0) {c : Int} (h0 : 0 ≤ c) (h1 : c ≤ M 1 s) : o_ke M (m_pay M s c) := by
  refine ⟨wk_pay h s h0 h1, rfl, rfl, rfl, ?_⟩
  show o_sm (fun i => o_e M 1 s (M 1 s - c) 1 i) _ + (M 0 5 + c) = _
  rw [o_sm_e, if_pos (by omega)]
  omega
/-- the leases end after the hour -/
def o_en (M : Nat → Nat → Int) : Prop := ∀ j : Nat, (j : Int) < M 0 1 → 0 < M 5 j → M 0 3 < M 6 j
theorem ke_renew1 {M : Nat → Nat → Int} (h : o_wk M) (x : Nat) (t : Int) (hx : (x : Int) < M 0 1) (h0 : 0 < M 5 x) (ht : 1 ≤ t ∧ t ≤ 24) : o_ke M (m_renew1 M x t) ∧ (m_renew1 M x t) 0 6 = M 0 6 ∧ (o_en M → o_en (m_renew1 M x t)) := by
  obtain ⟨s, hs8⟩ : ∃ s : Nat, (s : Int) = M 5 x - 1 := ⟨(M 5 x - 1).toNat, by omega⟩
  have hs9 : (M 5 x - 1).toNat = s := by omega
  have hb8 := h.2.1.2.2.2.2 x hx
  have hs : (s : Int) < M 0 0 := by omega
  have hpr := o_pr hb8.1.1 hb8.1.2 ht.1 ht.2
  have hle := h.2.2.2.2.1 x hx h0
  rw [hs9] at hle
  have hws := h.1.2.2 s hs
  unfold m_renew1
  rw [hs9]
  split
  · rename_i c
    have k1 := ke_pay h s hs (c := M 4 x * t) (by omega) c
    refine ⟨⟨wk_6 k1.1 x (by omega) (by show _ ≤ M 0 3 + 100; omega) (fun _ => ?_), k1.2⟩, rfl, fun he j hj hj0 => ?_⟩
    · show M 6 x + t - M 0 3 + o_e M 1 s (M 1 s - M 4 x * t) 1 (M 5 x - 1).toNat ≤ 100
      rw [hs9, o_e_s]
      omega
    · have := he j hj hj0
      show M 0 3 < o_e (m_pay M s (M 4 x * t)) 6 x (M 6 x + t) 6 j
      by_cases q : j = x
      · subst q; rw [o_e_s]; omega
      · rw [o_e_k q]; exact this
  · exact ⟨⟨wk_04 h _, rfl, rfl, rfl, rfl⟩, rfl, fun he => he⟩
theorem ke_burn1 {M : Nat → Nat → Int} (h : o_wk M) (i : Nat) (hi : (i : Int) < M 0 1) : o_ke M (m_burn1 M i) ∧ (o_en M → o_en (m_burn1 M i)) := by
  have hb8 := h.2.1.2.2.2.2 i hi
  have ho := h.2.2.2.1
  unfold m_burn1
  split
  · rename_i c
    refine ⟨⟨wk_7 (wk_02 (wk_8 h i (Or.inr rfl)) (by omega) (by omega)) _ _, rfl, rfl, rfl, rfl⟩, fun he => he⟩
  · exact ⟨⟨wk_8 h i (Or.inl rfl), rfl, rfl, rfl, rfl⟩, fun he => he⟩
theorem o_sm_nn {f : Nat → Int} (h : ∀ i, 0 ≤ f i) (n : Nat) : 0 ≤ o_sm f n := by
  induction n with
  | zero => exact Int.le_refl 0
  | succ n ih => show 0 ≤ o_sm f n + f n; have := h n; omega
theorem o_b_nn (p : Prop) [Decidable p] : 0 ≤ o_b p := by have := o_b01 p; omega
theorem o_sm_pos {f : Nat → Int} (h : ∀ i, 0 ≤ f i) {n i : Nat} (hi : i < n) (h0 : 0 < f i) : 0 < o_sm f n := by
  induction n with
  | zero => omega
  | succ n ih =>
    show 0 < o_sm f n + f n
    have h1 := h n
    have h2 := o_sm_nn h n
    by_cases q : i = n
    · subst q; omega
    · have := ih (by omega); omega
theorem ke_fine1 {M : Nat → Nat → Int} (h : o_wk M) (i : Nat) (hi : (i : Int) < M 0 0) : o_ke M (m_fine1 M i) ∧ (o_en M → o_en (m_fine1 M i)) := by
  have hws := h.1.2.2 i hi
  unfold m_fine1
  split
  · rename_i c
    have hc := c.1
    generalize m_cnt M i = cn at hc
    have k1 := ke_pay h i hi (c := min (2 * cn) (M 1 i)) (by omega) (by omega)
    refine ⟨⟨wk_3 (wk_2 k1.1 i (by omega) ?_ ?_) _ _, k1.2⟩, fun he => he⟩
    · show _ + o_e M 1 i (M 1 i - min (2 * cn) (M 1 i)) 1 i ≤ 100
      rw [o_e_s]; omega
    · show 0 ≤ o_e M 1 i (M 1 i - min (2 * cn) (M 1 i)) 1 i
      rw [o_e_s]; omega
  · exact ⟨o_ke_r h, fun he => he⟩
theorem m_cut_e {M : Nat → Nat → Int} {r : Int} {a j : Nat} (q1 : a ≠ 9) (q2 : a ≠ 10) (q3 : ¬ (a = 0 ∧ j = 6)) : m_cut M r a j = M a j := by
  by_cases c : r = -1 <;> simp [m_cut, c, q1, q2]
  intro q6 q7
  exact absurd ⟨q6, q7⟩ q3
theorem ke_free {M : Nat → Nat → Int} (h : o_wk M) (x : Nat) (hx : (x : Int) < M 0 1) : o_ke M (m_free M x) := by
  refine ⟨wk_free h x hx, m_cut_e (by decide) (by decide) (by decide), m_cut_e (by decide) (by decide) (by decide), m_cut_e (by decide) (by decide) (by decide), ?_⟩
  rw [show m_free M x 0 5 = M 0 5 from m_cut_e (by decide) (by decide) (by decide), show (fun i => m_free M x 1 i) = fun i => M 1 i from funext fun i => m_cut_e (by decide) (by decide) (by simp)]
theorem free_5 (M : Nat → Nat → Int) (x j : Nat) : m_free M x 5 j = if j = x then 0 else M 5 j := by
  rw [m_free, m_cut_e (by decide) (by decide) (by simp)]
  by_cases q : j = x <;> simp [o_e, q]
theorem free_6 (M : Nat → Nat → Int) (x j : Nat) : m_free M x 6 j = if j = x then 0 else M 6 j := by
  rw [m_free, m_cut_e (by decide) (by decide) (by simp)]
  by_cases q : j = x <;> simp [o_e, q]
theorem ke_end1 {M : Nat → Nat → Int} (h : o_wk M) (i : Nat) (hi : (i : Int) < M 0 1) : o_ke M (m_end1 M i) := by
  unfold m_end1
  split
  · exact ke_free h i hi
  · exact o_ke_r h
/-- folds -/
theorem ke_fd {s : (Nat → Nat → Int) → Nat → (Nat → Nat → Int)} {M : Nat → Nat → Int} (h : o_wk M) (N : Nat) (a : Nat) (hN : (N : Int) ≤ M 0 a) (ha : ∀ M', o_ke M M' → M' 0 a = M 0 a) (hs : ∀ M (i : Nat), o_wk M → (i : Int) < M 0 a → o_ke M (s M i)) : ∀ n, n ≤ N → o_ke M (o_fd s M n) := by
  refine o_fd_ind (o_ke M) N (o_ke_r h) (fun M' i hi h' => o_ke_t h' (hs M' i h'.1 ?_))
  rw [ha M' h']
  omega
theorem ke_burns {M : Nat → Nat → Int} (h : o_wk M) : ∀ n, n ≤ (M 0 1).toNat → o_ke M (o_fd m_burn1 M n) :=
  ke_fd h _ 1 (by have := h.2.1.1; omega) (fun _ h => h.2.2.1) (fun M i h hi => (ke_burn1 h i hi).1)
theorem ke_fines {M : Nat → Nat → Int} (h : o_wk M) : ∀ n, n ≤ (M 0 0).toNat → o_ke M (o_fd m_fine1 M n) :=
  ke_fd h _ 0 (by have := h.1.1; omega) (fun _ h => h.2.1) (fun M i h hi => (ke_fine1 h i hi).1)
theorem ke_ends {M : Nat → Nat → Int} (h : o_wk M) : ∀ n, n ≤ (M 0 1).toNat → o_ke M (o_fd m_end1 M n) :=
  ke_fd h _ 1 (by have := h.2.1.1; omega) (fun _ h => h.2.2.1) (fun M i h hi => ke_end1 h i hi)
theorem ke_renews {M : Nat → Nat → Int} (h : o_wk M) : ∀ n, n ≤ (M 0 6).toNat → o_ke M (o_fd m_renew1' M n) ∧ (o_fd m_renew1' M n) 0 6 = M 0 6 ∧ (o_en M → o_en (o_fd m_renew1' M n)) := by
  refine o_fd_ind (fun M' => o_ke M M' ∧ M' 0 6 = M 0 6 ∧ (o_en M → o_en M')) _ ⟨o_ke_r h, rfl, fun q => q⟩ (fun M' k hk h' => ?_)
  have hk' : (k : Int) < M' 0 6 := by rw [h'.2.1]; omega
  have hq := h'.1.1.2.2.1.2.2 k hk'
  have hl := h'.1.1.2.2.2.2.2.1 k hk'
  obtain ⟨k1, k2, k3⟩ := ke_renew1 h'.1.1 (M' 9 k).toNat (M' 10 k) (by omega) hl hq.2
  exact ⟨o_ke_t h'.1 k1, k2.trans h'.2.1, fun q => k3 (h'.2.2 q)⟩
theorem en_burns {M : Nat → Nat → Int} (h : o_wk M) (he : o_en M) : ∀ n, n ≤ (M 0 1).toNat → o_en (o_fd m_burn1 M n) := by
  intro n hn
  refine (o_fd_ind (fun M' => o_ke M M' ∧ o_en M') _ ⟨o_ke_r h, he⟩ (fun M' k hk h' => ?_) n hn).2
  have t := ke_burn1 h'.1.1 k (by rw [h'.1.2.2.1]; omega)
  exact ⟨o_ke_t h'.1 t.1, t.2 h'.2⟩
theorem en_fines {M : Nat → Nat → Int} (h : o_wk M) (he : o_en M) : ∀ n, n ≤ (M 0 0).toNat → o_en (o_fd m_fine1 M n) := by
  intro n hn
  refine (o_fd_ind (fun M' => o_ke M M' ∧ o_en M') _ ⟨o_ke_r h, he⟩ (fun M' k hk h' => ?_) n hn).2
  have t := ke_fine1 h'.1.1 k (by rw [h'.1.2.1]; omega)
  exact ⟨o_ke_t h'.1 t.1, t.2 h'.2⟩
theorem en_ends {M : Nat → Nat → Int} (h : o_wk M) (he : ∀ j : Nat, (j : Int) < M 0 1 → 0 < M 5 j → M 0 3 ≤ M 6 j) : ∀ n, n ≤ (M 0 1).toNat → ∀ j : Nat, (j : Int) < M 0 1 → 0 < (o_fd m_end1 M n) 5 j → M 0 3 ≤ (o_fd m_end1 M n) 6 j ∧ (j < n → M 0 3 < (o_fd m_end1 M n) 6 j) := by
  intro n
  induction n with
  | zero => exact fun _ j hj h0 => ⟨he j hj h0, fun q => absurd q (Nat.not_lt_zero j)⟩
  | succ n ih =>
    intro hn j hj h0
    have k := ke_ends h n (by omega)
    have ih := ih (by omega) j hj
    have e : o_fd m_end1 M (n + 1) = m_end1 (o_fd m_end1 M n) n := rfl
    rw [e] at h0 ⊢
    generalize o_fd m_end1 M n = Mn at k ih h0 ⊢
    have em : m_end1 Mn n = if 0 < Mn 5 n ∧ Mn 6 n = Mn 0 3 then m_free Mn n else Mn := rfl
    rw [em] at h0 ⊢
    by_cases c : 0 < Mn 5 n ∧ Mn 6 n = Mn 0 3
    · rw [if_pos c] at h0 ⊢
      rw [free_5] at h0
      rw [free_6]
      by_cases q : j = n
      · rw [if_pos q] at h0; omega
      · rw [if_neg q] at h0 ⊢
        have := ih h0
        exact ⟨this.1, fun q2 => this.2 (by omega)⟩
    · rw [if_neg c] at h0 ⊢
      have t := ih h0
      refine ⟨t.1, fun q2 => ?_⟩
      by_cases q : j = n
      · subst q
        have := k.2.2.2.1
        omega
      · exact t.2 (by omega)
theorem ke_m_renews {M : Nat → Nat → Int} (h : o_wk M) : o_ke M (m_renews M) ∧ (o_en M → o_en (m_renews M)) := by
  obtain ⟨k1, k2, k3⟩ := ke_renews h (M 0 6).toNat (Nat.le_refl _)
  exact ⟨⟨wk_06 k1.1, k1.2⟩, k3⟩
theorem ke_m_pre {M : Nat → Nat → Int} (h : o_wk M) (hh : M 0 3 < 2000000) : o_wk (m_pre M) ∧ m_pre M 0 0 = M 0 0 ∧ m_pre M 0 1 = M 0 1 ∧ m_pre M 0 3 = M 0 3 + 1 ∧ o_sm (fun i => m_pre M 1 i) (M 0 0).toNat + m_pre M 0 5 = o_sm (fun i => M 1 i) (M 0 0).toNat + M 0 5 ∧ (o_en M → ∀ j : Nat, (j : Int) < M 0 1 → 0 < m_pre M 5 j → M 0 3 + 1 ≤ m_pre M 6 j) := by
  obtain ⟨k1, e1⟩ := ke_m_renews h
  have k2 := ke_burns k1.1 _ (Nat.le_refl _)
  have e2 := fun q => en_burns k1.1 q _ (Nat.le_refl _)
  have k3 := ke_fines k2.1 _ (Nat.le_refl _)
  have e3 := fun q => en_fines k2.1 q _ (Nat.le_refl _)
  have k := o_ke_t k1 (o_ke_t k2 k3)
  have e : o_en M → o_en (m_fines (m_burns (m_renews M))) := fun q => e3 (e2 (e1 q))
  have hk : o_ke M (m_fines (m_burns (m_renews M))) := k
  unfold m_pre m_tick
  have h3 : (m_fines (m_burns (m_renews M))) 0 3 = M 0 3 := hk.2.2.2.1
  refine ⟨wk_03 hk.1 (by omega), hk.2.1, hk.2.2.1, ?_, hk.2.2.2.2, fun he j hj h0 => ?_⟩
  · rw [o_e_s]; omega
  · have := e he j (by rw [hk.2.2.1]; exact hj) h0
    show _ ≤ (m_fines (m_burns (m_renews M))) 6 j
    omega
theorem wf_hour {M : Nat → Nat → Int} (h : o_wf M) (hh : M 0 3 < 1000000) : o_wf (m_hour M) ∧ m_hour M 0 3 = M 0 3 + 1 := by
  obtain ⟨hwk, hwh, hwc, hwe⟩ := h
  obtain ⟨p1, p2, p3, p4, p5, p6⟩ := ke_m_pre hwk (by omega)
  have k := ke_ends p1 _ (Nat.le_refl _)
  have e := en_ends p1 (fun j hj h0 => by rw [p4]; exact p6 hwe j (by rw [← p3]; exact hj) h0) _ (Nat.le_refl _)
  have hk : o_ke (m_pre M) (m_hour M) := k
  refine ⟨⟨hk.1, by rw [hk.2.2.2.1, p4]; omega, ?_, fun j hj h0 => ?_⟩, by rw [hk.2.2.2.1, p4]⟩
  · have := hk.2.2.2.2
    rw [hk.2.1, p2]
    rw [p2] at this
    omega
  · rw [hk.2.2.1] at hj
    have := (e j hj h0).2 (by omega)
    rw [hk.2.2.2.1]
    exact this
theorem wf_pass {M : Nat → Nat → Int} (h : o_wf M) (n : Nat) (hh : M 0 3 + n ≤ 1000000) : o_wf (m_pass M n) ∧ m_pass M n 0 3 = M 0 3 + n := by
  induction n with
  | zero => exact ⟨h, by show M 0 3 = _; omega⟩
  | succ n ih =>
    have t := ih (by omega)
    have := wf_hour t.1 (by rw [t.2]; omega)
    exact ⟨this.1, by rw [show m_pass M (n + 1) = m_hour (m_pass M n) from rfl, this.2, t.2]; omega⟩
