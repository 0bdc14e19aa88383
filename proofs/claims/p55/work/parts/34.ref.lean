/-! words of the numbers, lemmas of them (out of whole) -/
def r_ship (M : Nat → Nat → Int) : Int := if 6 ≤ M 0 0 then 1 else 0
def r_lamp (M : Nat → Nat → Int) (v : Int) : Int := if v < 1 ∨ 3 < v then 1 else if 8 ≤ M 0 1 then 2 else 0
def r_oil (M : Nat → Nat → Int) (u : Int) : Int := if u < 1 ∨ 200 < u then 1 else if 500 < M 0 2 + u then 2 else 0
def r_lease (M : Nat → Nat → Int) (s x t : Int) : Int := if ¬ (0 ≤ s ∧ s < M 0 0) ∨ ¬ (0 ≤ x ∧ x < M 0 1) then 1 else if t < 1 ∨ 24 < t then 2 else if 0 < M 5 x.toNat then 3 else if M 4 x.toNat * t ≤ M 1 s.toNat then 0 else 4
def r_req (M : Nat → Nat → Int) (x t : Int) : Int := if ¬ (0 ≤ x ∧ x < M 0 1) then 1 else if t < 1 ∨ 24 < t then 2 else if ¬ 0 < M 5 x.toNat then 3 else if m_pos M x.toNat = -1 then 0 else 4
def r_unl (M : Nat → Nat → Int) (x : Int) : Int := if ¬ (0 ≤ x ∧ x < M 0 1) then 1 else if 0 < M 5 x.toNat then 0 else 2
def r_wait (t : Int) : Int := if t < 1 ∨ 48 < t then 1 else 0
/-- a lamp without a request: the queue isn't full -/
theorem o_qlt {M : Nat → Nat → Int} (h : o_wk M) {j : Nat} (hj : (j : Int) < M 0 1) (hp : m_pos M j = -1) : M 0 6 < 8 := by
  obtain ⟨-, ⟨b1, b2, -⟩, ⟨c1, c2, c3⟩, -, -, -, hd⟩ := h
  have hp2 := o_ps_fst (fun i => M 9 i = (j : Int)) (M 0 6).toNat
  rw [show o_ps (fun i => M 9 i = (j : Int)) (M 0 6).toNat = m_pos M j from rfl, hp] at hp2
  have hno : ∀ k : Nat, (k : Int) < M 0 6 → M 9 k ≠ j := by
    rcases hp2 with ⟨-, h⟩ | ⟨k, q, -⟩
    · exact fun k hk => h k (by omega)
    · omega
  have e1 : o_sm (fun i => o_sm (fun k => o_b (M 9 k = (i : Int))) (M 0 6).toNat) (M 0 1).toNat = M 0 6 := by
    rw [sm_swap (fun i k => o_b (M 9 k = ((i : Nat) : Int)))]
    rw [show o_sm (fun k => o_sm (fun i => o_b (M 9 k = ((i : Nat) : Int))) (M 0 1).toNat) (M 0 6).toNat = o_sm (fun _ => 1) (M 0 6).toNat from sm_eq (fun k hk => by have := c3 k (by omega); rw [sm_one (by omega), o_b1 (by omega)]), sm_const]
    omega
  have e2 : o_sm (fun i => o_sm (fun k => o_b (M 9 k = ((i : Nat) : Int))) (M 0 6).toNat) (M 0 1).toNat < o_sm (fun _ => 1) (M 0 1).toNat := by
    refine sm_lt (k := j) (fun i _ => sm_le1 (fun a b ha hb p q => hd a b (by omega) (by omega) (p.trans q.symm))) (by omega) ?_
    show o_sm (fun k => o_b (M 9 k = (j : Int))) (M 0 6).toNat < 1
    rw [show o_sm (fun k => o_b (M 9 k = (j : Int))) (M 0 6).toNat = o_sm (fun _ => 0) (M 0 6).toNat from sm_eq (fun k hk => o_b0 (hno k (by omega))), sm_zero]
    decide
  rw [sm_const] at e2
  omega
abbrev s_ah (M : Nat → Nat → Int) (i j : Nat) : Prop := M 2 j < M 2 i ∨ (M 2 j = M 2 i ∧ (M 1 i < M 1 j ∨ (M 1 i = M 1 j ∧ i < j)))
abbrev l_ah (M : Nat → Nat → Int) (i j : Nat) : Prop := M 6 i < M 6 j ∨ (M 6 i = M 6 j ∧ (M 4 j < M 4 i ∨ (M 4 j = M 4 i ∧ i < j)))
theorem s_ord (M : Nat → Nat → Int) : o_ord (s_ah M) := ⟨fun i j k h1 h2 => by omega, fun i h => by omega, fun i j h => by omega⟩
theorem l_ord (M : Nat → Nat → Int) : o_ord (l_ah M) := ⟨fun i j k h1 h2 => by omega, fun i h => by omega, fun i j h => by omega⟩
theorem s_rkP (M : Nat → Nat → Int) (s : Nat) : o_rkS M s = o_sm (fun o => o_b (True ∧ s_ah M o s)) (M 0 0).toNat := sm_eq (fun i _ => o_bc ⟨fun q => ⟨trivial, q⟩, fun q => q.2⟩)
/-- the ship of a rank: there is one for each rank below the number of ships, and no other -/
theorem s_at {M : Nat → Nat → Int} (h : 0 ≤ M 0 0) {rank r : Int} (hr : o_fst (fun i => o_rkS M i = rank) (M 0 0).toNat r) : (0 ≤ rank ∧ rank < M 0 0) ↔ r ≠ -1 := by
  constructor
  · rintro ⟨h0, h1⟩ q
    obtain ⟨j, a, -, c⟩ := rk_ex (P := fun _ => True) (s_ord M) (n := (M 0 0).toNat) h0 (by rw [d_tr]; omega)
    rcases hr with ⟨-, hn⟩ | ⟨k, e, -⟩
    · exact hn j a (show o_rkS M j = rank by rw [s_rkP]; exact c)
    · omega
  · intro q
    rcases hr with ⟨e, -⟩ | ⟨k, e, hk, hk2, -⟩
    · exact absurd e q
    · have a := rk_top (P := fun _ => True) (s_ord M) (n := (M 0 0).toNat) (j := k) hk trivial
      have b := rk_R (P := fun _ => True) (R := s_ah M) (n := (M 0 0).toNat) (j := k)
      rw [d_tr] at a
      rw [← s_rkP] at a b
      have hk2 : o_rkS M k = rank := hk2
      omega
theorem l_at {M : Nat → Nat → Int} {rank r : Int} (hr : o_fst (fun i => 0 < M 5 i ∧ o_rkL M i = rank) (M 0 1).toNat r) : (0 ≤ rank ∧ rank ≤ o_sm (fun i => o_b (0 < M 5 i)) (M 0 1).toNat - 1) ↔ r ≠ -1 := by
  constructor
  · rintro ⟨h0, h1⟩ q
    obtain ⟨j, a, b, c⟩ := rk_ex (P := fun i => 0 < M 5 i) (R := l_ah M) (l_ord M) (n := (M 0 1).toNat) h0 (by omega)
    rcases hr with ⟨-, hn⟩ | ⟨k, e, -⟩
    · exact hn j a ⟨b, c⟩
    · omega
  · intro q
    rcases hr with ⟨e, -⟩ | ⟨k, e, hk, hk2, -⟩
    · exact absurd e q
    · have a := rk_top (P := fun i => 0 < M 5 i) (R := l_ah M) (l_ord M) (n := (M 0 1).toNat) (j := k) hk hk2.1
      have b := rk_R (P := fun i => 0 < M 5 i) (R := l_ah M) (n := (M 0 1).toNat) (j := k)
      have e : o_rkL M k = o_sm (fun i => o_b (0 < M 5 i ∧ l_ah M i k)) (M 0 1).toNat := rfl
      have hk3 := hk2.2
      omega
def t_feed (T : Nat → Nat → Int) (c : Int) : Nat → Nat → Int := o_e (o_e T 1 (T 0 0).toNat c) 0 0 (T 0 0 + 1)
theorem o_fe_ch {M : Nat → Nat → Int} {s : Int} (hs : 0 ≤ s) (n : Nat) : (o_fe M s n ≠ -1 → ∃ i, i < n ∧ 0 < M 5 i ∧ s < M 6 i ∧ M 6 i = o_fe M s n) ∧ ∀ i, i < n → 0 < M 5 i → s < M 6 i → o_fe M s n ≠ -1 ∧ o_fe M s n ≤ M 6 i := by
  induction n with
  | zero => exact ⟨fun h => absurd rfl h, fun i hi => absurd hi (Nat.not_lt_zero i)⟩
  | succ n ih =>
    obtain ⟨a, b⟩ := ih
    simp only [o_fe]
    by_cases c : 0 < M 5 n ∧ s < M 6 n ∧ (o_fe M s n = -1 ∨ M 6 n < o_fe M s n)
    · rw [if_pos c]
      refine ⟨fun _ => ⟨n, by omega, c.1, c.2.1, rfl⟩, fun i hi h0 h1 => ⟨by omega, ?_⟩⟩
      by_cases q : i = n
      · rw [q]; exact Int.le_refl _
      · have := b i (by omega) h0 h1
        rcases c.2.2 with c3 | c3
        · exact absurd c3 this.1
        · omega
    · rw [if_neg c]
      refine ⟨fun h => ?_, fun i hi h0 h1 => ?_⟩
      · obtain ⟨i, h1, h2⟩ := a h
        exact ⟨i, by omega, h2⟩
      · by_cases q : i = n
        · subst q
          by_cases c1 : o_fe M s i = -1
          · exact absurd ⟨h0, h1, Or.inl c1⟩ c
          · refine ⟨c1, ?_⟩
            by_cases c2 : M 6 i < o_fe M s i
            · exact absurd ⟨h0, h1, Or.inr c2⟩ c
            · omega
        · exact b i (by omega) h0 h1
theorem m_D_eq {M : Nat → Nat → Int} {s t : Int} (h : ∀ i : Nat, (i : Int) < M 0 1 → 0 < M 5 i → (s < M 6 i ↔ t < M 6 i)) : m_D M s = m_D M t := by
  unfold m_D
  refine sm_eq (fun i hi => ?_)
  by_cases q : 0 < M 5 i
  · have := h i (by omega) q
    by_cases c : s < M 6 i
    · rw [if_pos ⟨q, c⟩, if_pos ⟨q, this.mp c⟩]
    · rw [if_neg (fun z => c z.2), if_neg (fun z => c (this.mpr z.2))]
  · rw [if_neg (fun z => q z.1), if_neg (fun z => q z.1)]
/-- so many hours on a stretch -/
theorem n_hp_k {M : Nat → Nat → Int} {h : Nat} {o c : Int} (hc : 0 < c) (k : Nat) (hk : ∀ j : Nat, j < k → m_D M (M 0 3 + (h + j : Nat)) = c) (ho : c * k ≤ o) : ∀ F, k ≤ F → n_hp M F h o = n_hp M (F - k) (h + k) (o - c * k) := by
  induction k with
  | zero => intro F _; rw [Nat.sub_zero, Nat.add_zero, show c * ((0 : Nat) : Int) = 0 from Int.mul_zero c, Int.sub_zero]
  | succ k ih =>
    intro F hF
    have e1 : c * ((k + 1 : Nat) : Int) = c * k + c := by rw [Int.natCast_succ, Int.mul_add, Int.mul_one]
    rw [e1] at ho ⊢
    rw [ih (fun j hj => hk j (by omega)) (by omega) F (by omega)]
    obtain ⟨f, hf⟩ : ∃ f, F - k = f + 1 := ⟨F - k - 1, by omega⟩
    rw [hf, show F - (k + 1) = f by omega]
    simp only [n_hp]
    have hd := hk k (by omega)
    rw [hd, if_neg (by omega), if_neg (by omega), show o - (c * k + c) = o - c * k - c by omega]
    rfl
theorem n_he_hp {M : Nat → Nat → Int} (hw : o_wl M) : ∀ (f : Nat) (h : Nat) (o : Int) (F : Nat), 0 ≤ o → o < F → o_sm (fun i => o_b (0 < M 5 i ∧ M 0 3 + h < M 6 i)) (M 0 1).toNat ≤ f → n_he M f (M 0 3 + h) o = n_hp M F h o := by
  intro f
  induction f with
  | zero =>
    intro h o F h0 h1 hc
    obtain ⟨F', rfl⟩ : ∃ F', F = F' + 1 := ⟨F - 1, by omega⟩
    have hno : ∀ i : Nat, (i : Int) < M 0 1 → ¬ (0 < M 5 i ∧ M 0 3 + h < M 6 i) := fun i hi q => by
      have := o_sm_pos (f := fun i => o_b (0 < M 5 i ∧ M 0 3 + (h : Int) < M 6 i)) (fun _ => o_b_nn _) (n := (M 0 1).toNat) (i := i) (by omega) (by show 0 < o_b _; rw [o_b1 q]; decide)
      omega
    have hD : m_D M (M 0 3 + h) = 0 := by
      unfold m_D
      rw [show o_sm (fun i => if 0 < M 5 i ∧ M 0 3 + (h : Int) < M 6 i then M 4 i else 0) (M 0 1).toNat = o_sm (fun _ => 0) (M 0 1).toNat from sm_eq (fun i hi => if_neg (hno i (by omega))), sm_zero]
    simp only [n_he, n_hp, hD, if_true]
  | succ f ih =>
    intro h o F h0 h1 hc
    obtain ⟨F', hF⟩ : ∃ F', F = F' + 1 := ⟨F - 1, by omega⟩
    have h3 := hw.2.2.1
    obtain ⟨a, b⟩ := o_fe_ch (M := M) (s := M 0 3 + h) (by omega) (M 0 1).toNat
    have hgt := o_fe_gt (M := M) (M 0 3 + h) (M 0 1).toNat
    simp only [n_he]
    by_cases c1 : o_fe M (M 0 3 + h) (M 0 1).toNat = -1 ∨ m_D M (M 0 3 + h) = 0
    · rw [if_pos c1]
      have hD : m_D M (M 0 3 + h) = 0 := by
        rcases c1 with c1 | c1
        · unfold m_D
          rw [show o_sm (fun i => if 0 < M 5 i ∧ M 0 3 + (h : Int) < M 6 i then M 4 i else 0) (M 0 1).toNat = o_sm (fun _ => 0) (M 0 1).toNat from sm_eq (fun i hi => if_neg (fun q => (b i hi q.1 q.2).1 c1)), sm_zero]
        · exact c1
      subst hF
      simp only [n_hp, hD, if_true]
    · rw [if_neg c1]
      have hDR := m_D_R hw (M 0 3 + h)
      have hD : 0 < m_D M (M 0 3 + h) := by
        by_cases q : m_D M (M 0 3 + h) = 0
        · exact absurd (Or.inr q) c1
        · omega
      have he : o_fe M (M 0 3 + h) (M 0 1).toNat ≠ -1 := fun q => c1 (Or.inl q)
      obtain ⟨i0, hi0, hl0, hs0, hM0⟩ := a he
      generalize o_fe M (M 0 3 + h) (M 0 1).toNat = e at *
      obtain ⟨w, hwe⟩ : ∃ w : Nat, (w : Int) = e - (M 0 3 + h) := ⟨(e - (M 0 3 + h)).toNat, by omega⟩
      have hst : ∀ j : Nat, j < w → m_D M (M 0 3 + (h + j : Nat)) = m_D M (M 0 3 + h) := fun j hj => (m_D_eq (fun i hi q => ⟨fun z => by have := (b i (by omega) q z).2; omega, fun z => by omega⟩)).symm
      generalize m_D M (M 0 3 + h) = c at *
      rw [← hwe]
      by_cases c2 : o < c * w
      · rw [if_pos c2]
        obtain ⟨k, hk⟩ : ∃ k : Nat, (k : Int) = o / c := ⟨(o / c).toNat, by have := Int.ediv_nonneg h0 (show 0 ≤ c by omega); omega⟩
        have d1 := Int.mul_ediv_add_emod o c
        have d2 := Int.emod_nonneg o (show c ≠ 0 by omega)
        have d3 := Int.emod_lt_of_pos o hD
        rw [← hk] at d1 ⊢
        have hkw : k < w := by
          rcases Nat.lt_or_ge k w with q | q
          · exact q
          · exfalso
            have := Int.mul_le_mul_of_nonneg_left (show (w : Int) ≤ k by omega) (show 0 ≤ c by omega)
            omega
        have hko : (k : Int) ≤ o := by
          have := Int.mul_le_mul_of_nonneg_right (show (1 : Int) ≤ c by omega) (show (0 : Int) ≤ k by omega)
          omega
        rw [n_hp_k hD k (fun j hj => hst j (by omega)) (by omega) F (by omega)]
        obtain ⟨f2, hf2⟩ : ∃ f2, F - k = f2 + 1 := ⟨F - k - 1, by omega⟩
        rw [hf2]
        simp only [n_hp]
        rw [hst k hkw, if_neg (by omega), if_pos (by omega)]
        omega
      · rw [if_neg c2]
        have hko : (w : Int) ≤ c * w := by
          have := Int.mul_le_mul_of_nonneg_right (show (1 : Int) ≤ c by omega) (show (0 : Int) ≤ w by omega)
          omega
        rw [n_hp_k hD w hst (by omega) F (by omega), show e = M 0 3 + (h + w : Nat) by omega]
        refine ih (h + w) (o - c * w) (F - w) (by omega) (by omega) ?_
        have hlt : o_sm (fun i => o_b (0 < M 5 i ∧ M 0 3 + (h + w : Nat) < M 6 i)) (M 0 1).toNat < o_sm (fun i => o_b (0 < M 5 i ∧ M 0 3 + h < M 6 i)) (M 0 1).toNat := by
          refine sm_lt (k := i0) (fun i _ => o_b_mono (fun q => ⟨q.1, by omega⟩)) hi0 ?_
          show o_b (0 < M 5 i0 ∧ M 0 3 + (h + w : Nat) < M 6 i0) < o_b (0 < M 5 i0 ∧ M 0 3 + h < M 6 i0)
          rw [o_b0 (by omega), o_b1 ⟨hl0, hs0⟩]
          decide
        omega
theorem n_he_eq {M : Nat → Nat → Int} (h : o_wk M) : n_he M 8 (M 0 3) (M 0 2) = n_hp M 501 0 (M 0 2) := by
  have ho := h.2.2.2.1
  have hb := o_sm_b (fun i => 0 < M 5 i ∧ M 0 3 + ((0 : Nat) : Int) < M 6 i) (M 0 1).toNat
  have h1 := h.2.1.2.1
  have t := n_he_hp h.2.1 8 0 (M 0 2) 501 (by omega) (by omega) (by omega)
  rw [show M 0 3 + ((0 : Nat) : Int) = M 0 3 from Int.add_zero _] at t
  exact t
/-- the lamps of a level -/
def g_c (M : Nat → Nat → Int) (v : Int) (n : Nat) : Int := o_sm (fun i => o_b (0 < M 5 i ∧ M 4 i = v)) n
theorem g_lv {M : Nat → Nat → Int} {o v : Int} (ho : 0 ≤ o) (hv : 1 ≤ v) (n : Nat) : n_lo M o v n = o - v * n_lc M o v n ∧ 0 ≤ n_lc M o v n ∧ n_lc M o v n ≤ g_c M v n ∧ 0 ≤ n_lo M o v n ∧ (n_lc M o v n = g_c M v n ∨ n_lo M o v n < v) := by
  induction n with
  | zero => exact ⟨by show o = o - v * 0; rw [Int.mul_zero, Int.sub_zero], Int.le_refl 0, Int.le_refl 0, ho, Or.inl rfl⟩
  | succ n ih =>
    obtain ⟨a, b, c, d, e⟩ := ih
    have hg : g_c M v (n + 1) = g_c M v n + o_b (0 < M 5 n ∧ M 4 n = v) := rfl
    simp only [n_lo, n_lc, hg]
    by_cases q : 0 < M 5 n ∧ M 4 n = v
    · rw [o_b1 q]
      by_cases q2 : v ≤ n_lo M o v n
      · rw [if_pos ⟨q.1, q.2, q2⟩, o_b1 ⟨q.1, q.2, q2⟩, Int.mul_add, Int.mul_one]
        refine ⟨by omega, by omega, by omega, by omega, ?_⟩
        rcases e with e | e
        · left; omega
        · omega
      · rw [if_neg (fun z => q2 z.2.2), o_b0 (fun z => q2 z.2.2), Int.add_zero]
        exact ⟨a, b, by omega, d, Or.inr (by omega)⟩
    · rw [o_b0 q, if_neg (fun z => q ⟨z.1, z.2.1⟩), o_b0 (fun z => q ⟨z.1, z.2.1⟩), Int.add_zero, Int.add_zero]
      exact ⟨a, b, c, d, e⟩
theorem t_ch {M : Nat → Nat → Int} (hw : o_wl M) (n : Nat) : (n : Int) ≤ M 0 1 → (0 ≤ g_c M 1 n ∧ 0 ≤ g_c M 2 n ∧ 0 ≤ g_c M 3 n ∧ g_c M 1 n + 2 * g_c M 2 n + 3 * g_c M 3 n ≤ 3 * n) ∧ (∀ s : Nat, t_tb M n s ≠ -1 → ∃ a b c : Int, 0 ≤ a ∧ 0 ≤ b ∧ 0 ≤ c ∧ a ≤ g_c M 1 n ∧ b ≤ g_c M 2 n ∧ c ≤ g_c M 3 n ∧ a + 2 * b + 3 * c = s ∧ a + b + c = t_tb M n s) ∧ ∀ (s : Nat) (a b c : Int), 0 ≤ a → 0 ≤ b → 0 ≤ c → a ≤ g_c M 1 n → b ≤ g_c M 2 n → c ≤ g_c M 3 n → a + 2 * b + 3 * c = s → a + b + c ≤ t_tb M n s := by
  induction n with
  | zero =>
    intro _
    refine ⟨⟨Int.le_refl 0, Int.le_refl 0, Int.le_refl 0, Int.le_refl 0⟩, fun s hs => ?_, fun s a b c a0 b0 c0 a1 b1 c1 e => ?_⟩
    · have hs : t_0 s ≠ -1 := hs
      unfold t_0 at hs
      by_cases q : s = 0
      · exact ⟨0, 0, 0, Int.le_refl 0, Int.le_refl 0, Int.le_refl 0, Int.le_refl 0, Int.le_refl 0, Int.le_refl 0, by omega, by show 0 = t_0 s; unfold t_0; rw [if_pos q]⟩
      · rw [if_neg q] at hs; exact absurd rfl hs
    · have a1 : a ≤ 0 := a1
      have b1 : b ≤ 0 := b1
      have c1 : c ≤ 0 := c1
      show a + b + c ≤ t_0 s
      unfold t_0
      rw [if_pos (by omega)]
      omega
  | succ n ih =>
    intro hn
    obtain ⟨⟨p1, p2, p3, p4⟩, hA, hB⟩ := ih (by omega)
    have hlv := (hw.2.2.2.2 n (by omega)).1
    have hR := t_tb_R M n
    have e1 : g_c M 1 (n + 1) = g_c M 1 n + o_b (0 < M 5 n ∧ M 4 n = 1) := rfl
    have e2 : g_c M 2 (n + 1) = g_c M 2 n + o_b (0 < M 5 n ∧ M 4 n = 2) := rfl
    have e3 : g_c M 3 (n + 1) = g_c M 3 n + o_b (0 < M 5 n ∧ M 4 n = 3) := rfl
    rw [e1, e2, e3]
    simp only [t_tb]
    by_cases q : 0 < M 5 n
    · rw [if_pos q]
      have hv : M 4 n = 1 ∨ M 4 n = 2 ∨ M 4 n = 3 := by omega
      have o1 : o_b (0 < M 5 n ∧ M 4 n = 1) = if M 4 n = 1 then 1 else 0 := by by_cases z : M 4 n = 1; (rw [if_pos z, o_b1 ⟨q, z⟩]); rw [if_neg z, o_b0 (fun y => z y.2)]
      have o2 : o_b (0 < M 5 n ∧ M 4 n = 2) = if M 4 n = 2 then 1 else 0 := by by_cases z : M 4 n = 2; (rw [if_pos z, o_b1 ⟨q, z⟩]); rw [if_neg z, o_b0 (fun y => z y.2)]
      have o3 : o_b (0 < M 5 n ∧ M 4 n = 3) = if M 4 n = 3 then 1 else 0 := by by_cases z : M 4 n = 3; (rw [if_pos z, o_b1 ⟨q, z⟩]); rw [if_neg z, o_b0 (fun y => z y.2)]
      rw [o1, o2, o3]
      refine ⟨by rcases hv with z | z | z <;> simp only [z] <;> simp <;> omega, fun s hs => ?_, fun s a b c a0 b0 c0 a1 b1 c1 e => ?_⟩
      · unfold t_up at hs ⊢
        by_cases c : (M 4 n).toNat ≤ s ∧ t_tb M n (s - (M 4 n).toNat) ≠ -1
        · rw [if_pos c] at hs ⊢
          by_cases c2 : t_tb M n s ≤ t_tb M n (s - (M 4 n).toNat) + 1
          · obtain ⟨a, b, d, a0, b0, d0, a1, b1, d1, e, f⟩ := hA _ c.2
            rw [Int.max_eq_right c2]
            rcases hv with z | z | z
            · exact ⟨a + 1, b, d, by omega, b0, d0, by rw [if_pos z]; omega, by rw [if_neg (by omega)]; omega, by rw [if_neg (by omega)]; omega, by omega, by omega⟩
            · exact ⟨a, b + 1, d, a0, by omega, d0, by rw [if_neg (by omega)]; omega, by rw [if_pos z]; omega, by rw [if_neg (by omega)]; omega, by omega, by omega⟩
            · exact ⟨a, b, d + 1, a0, b0, by omega, by rw [if_neg (by omega)]; omega, by rw [if_neg (by omega)]; omega, by rw [if_pos z]; omega, by omega, by omega⟩
          · have hR2 := hR (s - (M 4 n).toNat)
            obtain ⟨a, b, d, a0, b0, d0, a1, b1, d1, e, f⟩ := hA s (by omega)
            rw [Int.max_eq_left (by omega)]
            exact ⟨a, b, d, a0, b0, d0, by split <;> omega, by split <;> omega, by split <;> omega, e, f⟩
        · rw [if_neg c] at hs ⊢
          obtain ⟨a, b, d, a0, b0, d0, a1, b1, d1, e, f⟩ := hA s hs
          exact ⟨a, b, d, a0, b0, d0, by split <;> omega, by split <;> omega, by split <;> omega, e, f⟩
      · have old : a ≤ g_c M 1 n → b ≤ g_c M 2 n → c ≤ g_c M 3 n → a + b + c ≤ t_up (t_tb M n) (M 4 n).toNat s := fun x y z => by
          have t := hB s a b c a0 b0 c0 x y z e
          unfold t_up
          split <;> omega
        have new : ∀ a' b' c' : Int, 0 ≤ a' → 0 ≤ b' → 0 ≤ c' → a' ≤ g_c M 1 n → b' ≤ g_c M 2 n → c' ≤ g_c M 3 n → a' + 2 * b' + 3 * c' + M 4 n = s → a' + b' + c' + 1 ≤ t_up (t_tb M n) (M 4 n).toNat s := fun a' b' c' x0 y0 z0 x y z w => by
          have t := hB (s - (M 4 n).toNat) a' b' c' x0 y0 z0 x y z (by omega)
          unfold t_up
          rw [if_pos ⟨by omega, by omega⟩]
          omega
        rcases hv with z | z | z
        · rw [if_pos z] at a1
          rw [if_neg (by omega)] at b1 c1
          by_cases y : a ≤ g_c M 1 n
          · exact old y (by omega) (by omega)
          · have := new (a - 1) b c (by omega) b0 c0 (by omega) (by omega) (by omega) (by omega); omega
        · rw [if_pos z] at b1
          rw [if_neg (by omega)] at a1 c1
          by_cases y : b ≤ g_c M 2 n
          · exact old (by omega) y (by omega)
          · have := new a (b - 1) c a0 (by omega) c0 (by omega) (by omega) (by omega) (by omega); omega
        · rw [if_pos z] at c1
          rw [if_neg (by omega)] at a1 b1
          by_cases y : c ≤ g_c M 3 n
          · exact old (by omega) (by omega) y
          · have := new a b (c - 1) a0 b0 (by omega) (by omega) (by omega) (by omega) (by omega); omega
    · rw [if_neg q, o_b0 (fun z => q z.1), o_b0 (fun z => q z.1), o_b0 (fun z => q z.1), Int.add_zero, Int.add_zero, Int.add_zero]
      exact ⟨⟨p1, p2, p3, by omega⟩, hA, hB⟩
theorem t_max_ge {T : Nat → Int} {n s : Nat} (h : s < n) : T s ≤ t_max T n := by
  induction n with
  | zero => omega
  | succ n ih =>
    simp only [t_max]
    by_cases q : s = n
    · rw [q]; omega
    · have := ih (by omega); omega
theorem t_max_le {T : Nat → Int} {n : Nat} {m : Int} (h0 : 0 ≤ m) (h : ∀ s, s < n → T s ≤ m) : t_max T n ≤ m := by
  induction n with
  | zero => exact h0
  | succ n ih =>
    have := ih (fun s hs => h s (by omega))
    have := h n (by omega)
    simp only [t_max]
    omega
theorem t_most {M : Nat → Nat → Int} (h : o_wk M) : t_max (t_tb M (M 0 1).toNat) (min 25 (M 0 2 + 1).toNat) = n_oc M 3 := by
  have ho := h.2.2.2.1
  have hw1 := h.2.1.1
  have hw2 := h.2.1.2.1
  obtain ⟨⟨p1, p2, p3, p4⟩, hA, hB⟩ := t_ch h.2.1 (M 0 1).toNat (by omega)
  have L1 := g_lv (M := M) (o := M 0 2) (v := 1) ho.1 (by omega) (M 0 1).toNat
  have L2 := g_lv (M := M) (o := n_lo M (M 0 2) 1 (M 0 1).toNat) (v := 2) L1.2.2.2.1 (by omega) (M 0 1).toNat
  have L3 := g_lv (M := M) (o := n_lo M (n_lo M (M 0 2) 1 (M 0 1).toNat) 2 (M 0 1).toNat) (v := 3) L2.2.2.2.1 (by omega) (M 0 1).toNat
  have e : n_oc M 3 = 0 + n_lc M (M 0 2) 1 (M 0 1).toNat + n_lc M (n_lo M (M 0 2) 1 (M 0 1).toNat) 2 (M 0 1).toNat + n_lc M (n_lo M (n_lo M (M 0 2) 1 (M 0 1).toNat) 2 (M 0 1).toNat) 3 (M 0 1).toNat := rfl
  rw [e]
  generalize n_lo M (n_lo M (n_lo M (M 0 2) 1 (M 0 1).toNat) 2 (M 0 1).toNat) 3 (M 0 1).toNat = x3 at *
  generalize n_lc M (n_lo M (n_lo M (M 0 2) 1 (M 0 1).toNat) 2 (M 0 1).toNat) 3 (M 0 1).toNat = y3 at *
  generalize n_lo M (n_lo M (M 0 2) 1 (M 0 1).toNat) 2 (M 0 1).toNat = x2 at *
  generalize n_lc M (n_lo M (M 0 2) 1 (M 0 1).toNat) 2 (M 0 1).toNat = y2 at *
  generalize n_lo M (M 0 2) 1 (M 0 1).toNat = x1 at *
  generalize n_lc M (M 0 2) 1 (M 0 1).toNat = y1 at *
  obtain ⟨a1, a2, a3, a4, a5⟩ := L1
  obtain ⟨b1, b2, b3, b4, b5⟩ := L2
  obtain ⟨c1, c2, c3, c4, c5⟩ := L3
  refine Int.le_antisymm (t_max_le (by omega) (fun s hs => ?_)) ?_
  · by_cases q : t_tb M (M 0 1).toNat s = -1
    · omega
    · obtain ⟨u, v, w, u0, v0, w0, u1, v1, w1, e1, e2⟩ := hA s q
      rw [← e2]
      rcases a5 with a5 | a5 <;> rcases b5 with b5 | b5 <;> rcases c5 with c5 | c5 <;> omega
  · have t := hB (y1 + 2 * y2 + 3 * y3).toNat y1 y2 y3 a2 b2 c2 a3 b3 c3 (by omega)
    have u := t_max_ge (T := t_tb M (M 0 1).toNat) (n := min 25 (M 0 2 + 1).toNat) (s := (y1 + 2 * y2 + 3 * y3).toNat) (by omega)
    omega

