theorem burn1_c {M : Nat → Nat → Int} {i a j : Nat} (h7 : a ≠ 7) (h8 : a ≠ 8) (h2 : ¬ (a = 0 ∧ j = 2)) : m_burn1 M i a j = M a j := by
  unfold m_burn1
  split
  · rw [o_e_n h7]
    by_cases q : a = 0
    · subst q
      rw [o_e_k (fun q => h2 ⟨rfl, q⟩), o_e_n (by decide)]
    · rw [o_e_n q, o_e_n h8]
  · rw [o_e_n h8]
theorem burns_c {M : Nat → Nat → Int} {n a j : Nat} (h7 : a ≠ 7) (h8 : a ≠ 8) (h2 : ¬ (a = 0 ∧ j = 2)) : o_fd m_burn1 M n a j = M a j := by
  induction n with
  | zero => rfl
  | succ n ih => rw [show o_fd m_burn1 M (n + 1) = m_burn1 (o_fd m_burn1 M n) n from rfl, burn1_c h7 h8 h2, ih]
theorem burns_o {M : Nat → Nat → Int} (n : Nat) : o_fd m_burn1 M n 0 2 = n_bo M n := by
  induction n with
  | zero => rfl
  | succ n ih =>
    rw [show o_fd m_burn1 M (n + 1) = m_burn1 (o_fd m_burn1 M n) n from rfl]
    simp only [m_burn1, n_bo, ih, burns_c (M := M) (n := n) (a := 5) (j := n) (by decide) (by decide) (by simp), burns_c (M := M) (n := n) (a := 4) (j := n) (by decide) (by decide) (by simp)]
    split
    · rw [o_e_n (by decide), o_e_s]
    · rw [o_e_n (by decide), ih]
theorem burn_bc (M : Nat → Nat → Int) (n : Nat) : n_burn M n = n_bc M n := by
  induction n with
  | zero => rfl
  | succ n ih =>
    simp only [n_burn, n_bc, ih, burns_o, burns_c (M := M) (n := n) (a := 5) (j := n) (by decide) (by decide) (by simp), burns_c (M := M) (n := n) (a := 4) (j := n) (by decide) (by decide) (by simp)]
theorem sm_part {f : Nat → Int} {n N : Nat} (h : ∀ i, i < N → 0 ≤ f i) (hn : n ≤ N) : o_sm f n ≤ o_sm f N := by
  induction N with
  | zero => rw [show n = 0 by omega]; exact Int.le_refl _
  | succ N ih =>
    by_cases q : n = N + 1
    · rw [q]; exact Int.le_refl _
    · have := ih (fun i hi => h i (by omega)) (by omega)
      have := h N (by omega)
      show o_sm f n ≤ o_sm f N + f N
      omega
theorem burn_all {M : Nat → Nat → Int} (hw : o_wl M) (ho : d_all M ≤ M 0 2) : ∀ n, n ≤ (M 0 1).toNat → n_bo M n = M 0 2 - o_sm (fun i => if 0 < M 5 i then M 4 i else 0) n := by
  intro n
  induction n with
  | zero => intro _; show M 0 2 = M 0 2 - 0; omega
  | succ n ih =>
    intro hn
    have ih := ih (by omega)
    have hb := (hw.2.2.2.2 n (by omega)).1
    have hp := sm_part (f := fun i => if 0 < M 5 i then M 4 i else 0) (n := n + 1) (N := (M 0 1).toNat) (fun i hi => by have := (hw.2.2.2.2 i (by omega)).1; split <;> omega) hn
    have hp : o_sm (fun i => if 0 < M 5 i then M 4 i else 0) n + (if 0 < M 5 n then M 4 n else 0) ≤ d_all M := hp
    show (if 0 < M 5 n ∧ M 4 n ≤ n_bo M n then n_bo M n - M 4 n else n_bo M n) = M 0 2 - (o_sm (fun i => if 0 < M 5 i then M 4 i else 0) n + (if 0 < M 5 n then M 4 n else 0))
    by_cases q : 0 < M 5 n
    · rw [if_pos q] at hp
      rw [if_pos q, if_pos ⟨q, by omega⟩]
      omega
    · rw [if_neg q, if_neg (fun z => q z.1)]
      omega
theorem ends_c {M : Nat → Nat → Int} (n : Nat) : (∀ j, o_fd m_end1 M n 4 j = M 4 j) ∧ (∀ k, k ≠ 6 → o_fd m_end1 M n 0 k = M 0 k) ∧ (∀ j, o_fd m_end1 M n 5 j = if j < n ∧ 0 < M 5 j ∧ M 6 j = M 0 3 then 0 else M 5 j) ∧ ∀ j, o_fd m_end1 M n 6 j = if j < n ∧ 0 < M 5 j ∧ M 6 j = M 0 3 then 0 else M 6 j := by
  induction n with
  | zero => exact ⟨fun _ => rfl, fun _ _ => rfl, fun j => by rw [if_neg (fun q => absurd q.1 (Nat.not_lt_zero j))]; rfl, fun j => by rw [if_neg (fun q => absurd q.1 (Nat.not_lt_zero j))]; rfl⟩
  | succ n ih =>
    obtain ⟨a, b, c, d⟩ := ih
    have e : o_fd m_end1 M (n + 1) = m_end1 (o_fd m_end1 M n) n := rfl
    have hc : (0 < o_fd m_end1 M n 5 n ∧ o_fd m_end1 M n 6 n = o_fd m_end1 M n 0 3) ↔ (0 < M 5 n ∧ M 6 n = M 0 3) := by
      rw [c, d, b 3 (by decide), if_neg (fun q => absurd q.1 (Nat.lt_irrefl n)), if_neg (fun q => absurd q.1 (Nat.lt_irrefl n))]
    generalize o_fd m_end1 M n = E at a b c d e hc
    rw [e]
    unfold m_end1
    by_cases q : 0 < M 5 n ∧ M 6 n = M 0 3
    · rw [if_pos (hc.mpr q)]
      refine ⟨fun j => ?_, fun k hk => ?_, fun j => ?_, fun j => ?_⟩
      · rw [m_free, m_cut_e (by decide) (by decide) (by simp), o_e_n (by decide), o_e_n (by decide)]; exact a j
      · rw [m_free, m_cut_e (by decide) (by decide) (by omega), o_e_n (by decide), o_e_n (by decide)]; exact b k hk
      · rw [free_5, c]
        by_cases q2 : j = n
        · subst q2; rw [if_pos rfl, if_pos ⟨by omega, q⟩]
        · rw [if_neg q2]
          by_cases q3 : j < n ∧ 0 < M 5 j ∧ M 6 j = M 0 3
          · rw [if_pos q3, if_pos ⟨by omega, q3.2⟩]
          · rw [if_neg q3, if_neg (fun z => q3 ⟨by omega, z.2⟩)]
      · rw [free_6, d]
        by_cases q2 : j = n
        · subst q2; rw [if_pos rfl, if_pos ⟨by omega, q⟩]
        · rw [if_neg q2]
          by_cases q3 : j < n ∧ 0 < M 5 j ∧ M 6 j = M 0 3
          · rw [if_pos q3, if_pos ⟨by omega, q3.2⟩]
          · rw [if_neg q3, if_neg (fun z => q3 ⟨by omega, z.2⟩)]
    · rw [if_neg (fun z => q (hc.mp z))]
      refine ⟨a, b, fun j => ?_, fun j => ?_⟩
      · rw [c]
        by_cases q3 : j < n ∧ 0 < M 5 j ∧ M 6 j = M 0 3
        · rw [if_pos q3, if_pos ⟨by omega, q3.2⟩]
        · rw [if_neg q3, if_neg (fun z => q3 ⟨by by_cases q4 : j = n; (rw [q4] at z; exact absurd z.2 q); omega, z.2⟩)]
      · rw [d]
        by_cases q3 : j < n ∧ 0 < M 5 j ∧ M 6 j = M 0 3
        · rw [if_pos q3, if_pos ⟨by omega, q3.2⟩]
        · rw [if_neg q3, if_neg (fun z => q3 ⟨by by_cases q4 : j = n; (rw [q4] at z; exact absurd z.2 q); omega, z.2⟩)]
/-- after h hours with bright lamps alone -/
def m_I (M : Nat → Nat → Int) (h : Nat) (B : Nat → Nat → Int) : Prop := o_wk B ∧ B 0 1 = M 0 1 ∧ B 0 3 = M 0 3 + h ∧ ∀ j : Nat, (j : Int) < M 0 1 → B 4 j = M 4 j ∧ B 5 j = (if 0 < M 5 j ∧ M 0 3 + h < M 6 j then M 5 j else 0) ∧ (0 < B 5 j → B 6 j = M 6 j)
theorem m_I_D {M B : Nat → Nat → Int} {h : Nat} (hI : m_I M h B) : d_all B = m_D M (M 0 3 + h) := by
  unfold d_all m_D
  rw [hI.2.1]
  refine sm_eq (fun i hi => ?_)
  obtain ⟨a, b, -⟩ := hI.2.2.2 i (by omega)
  rw [a, b]
  by_cases q : 0 < M 5 i ∧ M 0 3 + h < M 6 i
  · rw [if_pos q, if_pos q.1, if_pos q]
  · rw [if_neg q, if_neg (by omega), if_neg q]
theorem m_I_s {M B : Nat → Nat → Int} {h : Nat} (hI : m_I M h B) (hh : M 0 3 + h < 2000000) (ho : d_all B ≤ B 0 2) : m_I M (h + 1) (m_ends (m_tick (m_burns B))) ∧ (m_ends (m_tick (m_burns B))) 0 2 = B 0 2 - d_all B := by
  obtain ⟨hw, h1, h3, hj⟩ := hI
  have kb : o_ke B (m_burns B) := ke_burns hw _ (Nat.le_refl _)
  have b3 : m_burns B 0 3 = B 0 3 := kb.2.2.2.1
  have kt : o_wk (m_tick (m_burns B)) := wk_03 kb.1 (by omega)
  have t1 : m_tick (m_burns B) 0 1 = B 0 1 := kb.2.2.1
  have t3 : m_tick (m_burns B) 0 3 = B 0 3 + 1 := by unfold m_tick; rw [o_e_s]; omega
  have ke : o_ke (m_tick (m_burns B)) (m_ends (m_tick (m_burns B))) := ke_ends kt _ (Nat.le_refl _)
  obtain ⟨e4, e0, e5, e6⟩ := ends_c (M := m_tick (m_burns B)) (m_tick (m_burns B) 0 1).toNat
  have T4 : ∀ j, m_tick (m_burns B) 4 j = B 4 j := fun j => burns_c (by decide) (by decide) (by simp)
  have T5 : ∀ j, m_tick (m_burns B) 5 j = B 5 j := fun j => burns_c (by decide) (by decide) (by simp)
  have T6 : ∀ j, m_tick (m_burns B) 6 j = B 6 j := fun j => burns_c (by decide) (by decide) (by simp)
  have T2 : m_tick (m_burns B) 0 2 = B 0 2 - d_all B := by
    show m_burns B 0 2 = _
    unfold m_burns
    rw [burns_o, burn_all hw.2.1 ho _ (Nat.le_refl _)]
    rfl
  refine ⟨⟨ke.1, ke.2.2.1.trans (t1.trans h1), ?_, fun j hj8 => ?_⟩, (e0 2 (by decide)).trans T2⟩
  · have := ke.2.2.2.1
    omega
  · obtain ⟨a, b, c⟩ := hj j hj8
    have g5 : (m_ends (m_tick (m_burns B))) 5 j = if 0 < B 5 j ∧ B 6 j = B 0 3 + 1 then 0 else B 5 j := by
      unfold m_ends
      rw [e5, T5, T6, t3]
      by_cases q : 0 < B 5 j ∧ B 6 j = B 0 3 + 1
      · rw [if_pos q, if_pos ⟨by omega, q⟩]
      · rw [if_neg q, if_neg (fun z => q z.2)]
    have g6 : (m_ends (m_tick (m_burns B))) 6 j = if 0 < B 5 j ∧ B 6 j = B 0 3 + 1 then 0 else B 6 j := by
      unfold m_ends
      rw [e6, T5, T6, t3]
      by_cases q : 0 < B 5 j ∧ B 6 j = B 0 3 + 1
      · rw [if_pos q, if_pos ⟨by omega, q⟩]
      · rw [if_neg q, if_neg (fun z => q z.2)]
    refine ⟨?_, ?_, ?_⟩
    · unfold m_ends; rw [e4, T4]; exact a
    · rw [g5]
      by_cases q : 0 < M 5 j ∧ M 0 3 + h < M 6 j
      · rw [if_pos q] at b
        have c := c (by omega)
        by_cases q2 : M 6 j = M 0 3 + (h + 1)
        · rw [if_pos ⟨by omega, by omega⟩, if_neg (by omega)]
        · rw [if_neg (by omega), if_pos (by omega)]; exact b
      · rw [if_neg q] at b
        rw [if_neg (by omega), if_neg (by omega)]; exact b
    · rw [g5, g6]
      by_cases q : 0 < B 5 j ∧ B 6 j = B 0 3 + 1
      · rw [if_pos q]; intro z; omega
      · rw [if_neg q, if_neg q]; exact c
theorem lsd_0 {B : Nat → Nat → Int} (hw : o_wl B) : o_sm (fun i => o_b (0 < B 5 i)) (B 0 1).toNat ≤ d_all B ∧ (d_all B ≤ 3 * o_sm (fun i => o_b (0 < B 5 i)) (B 0 1).toNat) := by
  unfold d_all
  rw [← sm_mul]
  constructor
  · refine sm_le (fun i hi => ?_)
    have := (hw.2.2.2.2 i (by omega)).1
    by_cases q : 0 < B 5 i
    · rw [o_b1 q, if_pos q]; omega
    · rw [o_b0 q, if_neg q]; omega
  · refine sm_le (fun i hi => ?_)
    have := (hw.2.2.2.2 i (by omega)).1
    by_cases q : 0 < B 5 i
    · rw [o_b1 q, if_pos q]; omega
    · rw [o_b0 q, if_neg q]; omega
set_option maxRecDepth 100000 in
set_option maxHeartbeats 4000000 in
/-- brightNext() -/
theorem ct_X12_brightNext {l : Launch} (hl : l.stackTraces = false) (d : Nat) (g M : Nat → Nat → Int) (P : List (Nat → Nat → Int)) (S : Option (Nat → Nat → Int)) (T : Nat → Nat → Int) (hmd : o_md g M P S T) (hwf : o_wf M) : o_Ct l yX12_brightNext wX12_brightNext (d + 4) o_no [.ref 192] o_N (o_mem g) 0 0 (r_x 0 (n_bc M (M 0 1).toNat) M P S T g) := by
  refine o_Ct.ofV hl mX12_brightNext (by decide +kernel) rfl rfl rfl (Nat.le_of_ble_eq_true rfl) ?_
  refine o_aload_n dX12_brightNext_0 rfl ?_
  refine o_iconst dX12_brightNext_1 ?_
  refine o_pmE dX12_brightNext_2 fp_X12_42 rfl (by decide) (Nat.le_of_ble_eq_true rfl) rfl rfl (fun _ => rfl) (by decide) (fun g_2 e_2 => ?_)
  refine o_aload_n dX12_brightNext_5 rfl ?_
  refine o_gf dX12_brightNext_6 fl_X12_9 rfl (by decide) rfl ?_
  refine o_iconst dX12_brightNext_9 ?_
  refine o_aload_n dX12_brightNext_10 rfl ?_
  refine o_gf dX12_brightNext_11 fl_X12_16 rfl (by decide) rfl ?_
  refine o_iconst dX12_brightNext_14 ?_
  refine o_bipush dX12_brightNext_15 (by decide) ?_
  refine o_cpE (sp := 0) (dp := 0) (m0 := 81) dX12_brightNext_17 ml_X12_45 (by decide) (by decide) rfl rfl (by decide) (by decide) (by first | rfl | omega) (by first | rfl | omega) (by first | rfl | omega) (by omega) (by omega) (Nat.le_of_ble_eq_true rfl) (fun _ => rfl) (by decide) (fun g_17 e_17 => ?_)
  refine o_aload_n dX12_brightNext_20 rfl ?_
  refine o_cVm _ (ct_X12_burns hl d g_17 M (by rw [e_17, o_cp_n (by decide), e_2, o_e_n (by decide)]; exact hmd.1) hwf.1) dX12_brightNext_21 ml_X12_132 yw_X12_burns rfl (by decide) (by omega) (by decide) rfl rfl rfl (Nat.le_of_ble_eq_true rfl) (fun g_21 q_21 => ?_)
  refine o_istore_n dX12_brightNext_24 (by decide) ?_
  refine o_aload_n dX12_brightNext_25 rfl ?_
  refine o_gf dX12_brightNext_26 fl_X12_16 rfl (by decide) rfl ?_
  refine o_iconst dX12_brightNext_29 ?_
  refine o_aload_n dX12_brightNext_30 rfl ?_
  refine o_gf dX12_brightNext_31 fl_X12_9 rfl (by decide) rfl ?_
  refine o_iconst dX12_brightNext_34 ?_
  refine o_bipush dX12_brightNext_35 (by decide) ?_
  refine o_cpE (sp := 0) (dp := 0) (m0 := 81) dX12_brightNext_37 ml_X12_45 (by decide) (by decide) rfl rfl (by decide) (by decide) (by first | rfl | omega) (by first | rfl | omega) (by first | rfl | omega) (by omega) (by omega) (Nat.le_of_ble_eq_true rfl) (fun _ => rfl) (by decide) (fun g_37 e_37 => ?_)
  refine o_iload_n dX12_brightNext_40 rfl ?_
  refine o_ret1 dX12_brightNext_41 trivial ?_
  have k3 := o_mk_t (o_mk_t (o_mk_7 e_2) (o_mk_c ⟨by decide, by decide⟩ e_17)) (o_mk_t (o_mk_s q_21.2) (o_mk_c ⟨by decide, by decide⟩ e_37))
  have t := o_md_k (M' := M) hmd ?_ k3
  · refine r_xI (burn_bc M _).symm ⟨by rw [e_37, o_cp_n (by decide), q_21.2 192 (fun q => absurd (show 192 = 193 from q) (by decide)), e_17, o_cp_n (by decide), e_2, o_e_s], t⟩
  · refine sr_cpy hmd.1 hwf.1 (fun j hj => ?_)
    rw [e_37]
    unfold o_cp
    rw [if_pos ⟨rfl, by omega, by omega⟩, q_21.2 195 (fun q => absurd (show 195 = 193 from q) (by decide)), e_17]
    unfold o_cp
    rw [if_pos ⟨rfl, by omega, by omega⟩, e_2, o_e_n (by decide)]
    congr 1 <;> omega
set_option maxRecDepth 100000 in
set_option maxHeartbeats 4000000 in
/-- hoursOfOil() -/
theorem ct_X12_hoursOfOil {l : Launch} (hl : l.stackTraces = false) (d : Nat) (g M : Nat → Nat → Int) (P : List (Nat → Nat → Int)) (S : Option (Nat → Nat → Int)) (T : Nat → Nat → Int) (hmd : o_md g M P S T) (hwf : o_wf M) (r : Int) (hr9 : n_hp M 501 0 (M 0 2) = r) : o_Ct l yX12_hoursOfOil wX12_hoursOfOil (d + 4) o_no [.ref 192] o_N (o_mem g) 0 0 (r_x (if r = -1 then 1 else 0) (if r = -1 then 0 else r) M P S T g) := by
  refine o_Ct.ofV hl mX12_hoursOfOil (by decide +kernel) rfl rfl rfl (Nat.le_of_ble_eq_true rfl) ?_
  have hwh := hwf.2.1
  have key : ∀ g_12, g_12 = o_cp g 193 195 0 0 81 → _ := fun g_12 e_12 => o_lp (fun h => ∀ g1 B, o_sr (g1 193) B → m_I M h B → o_fr o_mc g_12 g1 → 0 ≤ B 0 2 → B 0 2 + h ≤ 500 → n_hp M (501 - h) h (B 0 2) = r → o_V l mX12_hoursOfOil (d + 4) o_no (r_x (if r = -1 then 1 else 0) (if r = -1 then 0 else r) M P S T g) 17 [(0, .ref 192), (1, .int (o_I ((h : Nat) : Int)))] [] o_N (o_mem g1) 0 0) 500 (fun h hi ih g1 B h1 hI f1 ho0 ho1 hr => by
    have hD9 := m_I_D hI
    have hDR := m_D_R hwf.1.2.1 (M 0 3 + h)
    have hld := lsd_0 hI.1.2.1
    have hlb := o_sm_b (fun i => 0 < B 5 i) (B 0 1).toNat
    have hB1 := hI.1.2.1.2.1
    have hB0 := hI.1.2.1.1
    have hB3 := hI.2.2.1
    have hg2 : g1 193 2 = B 0 2 := h1.1.2.2.1
    have kb : o_ke B (m_burns B) := ke_burns hI.1 _ (Nat.le_refl _)
    have b3 : m_burns B 0 3 = B 0 3 := kb.2.2.2.1
    obtain ⟨f, hf⟩ : ∃ f, 501 - h = f + 1 := ⟨500 - h, by omega⟩
    rw [hf, n_hp] at hr
    refine o_aload_n dX12_hoursOfOil_17 rfl ?_
    refine o_cV _ (ct_X12_leased hl d g1 B h1 hI.1) dX12_hoursOfOil_18 ml_X12_151 yw_X12_leased rfl (by decide) (by omega) (by decide) rfl rfl rfl (Nat.le_of_ble_eq_true rfl) ?_
    refine o_if_le (tgt := 53) dX12_hoursOfOil_21 (by decide) ⟨by omega, by omega⟩ (fun c_21 => ?_) (fun c_21 => ?_)
    · skip
      refine o_aload_n dX12_hoursOfOil_53 rfl ?_
      refine o_cV _ (ct_X12_leased hl d g1 B h1 hI.1) dX12_hoursOfOil_54 ml_X12_151 yw_X12_leased rfl (by decide) (by omega) (by decide) rfl rfl rfl (Nat.le_of_ble_eq_true rfl) ?_
      refine o_if_le (tgt := 64) dX12_hoursOfOil_57 (by decide) ⟨by omega, by omega⟩ (fun c_57 => ?_) (fun c_57 => ?_)
      · skip
        refine o_iconst dX12_hoursOfOil_64 ?_
        refine o_istore_n dX12_hoursOfOil_65 (by decide) ?_
        refine o_aload_n dX12_hoursOfOil_66 rfl ?_
        refine o_gf dX12_hoursOfOil_67 fl_X12_16 rfl (by decide) rfl ?_
        refine o_iconst dX12_hoursOfOil_70 ?_
        refine o_aload_n dX12_hoursOfOil_71 rfl ?_
        refine o_gf dX12_hoursOfOil_72 fl_X12_9 rfl (by decide) rfl ?_
        refine o_iconst dX12_hoursOfOil_75 ?_
        refine o_bipush dX12_hoursOfOil_76 (by decide) ?_
        refine o_cpE (sp := 0) (dp := 0) (m0 := 81) dX12_hoursOfOil_78 ml_X12_45 (by decide) (by decide) rfl rfl (by decide) (by decide) (by first | rfl | omega) (by first | rfl | omega) (by first | rfl | omega) (by omega) (by omega) (Nat.le_of_ble_eq_true rfl) (fun _ => rfl) (by decide) (fun g_78 e_78 => ?_)
        refine o_aload_n dX12_hoursOfOil_81 rfl ?_
        refine o_iload_n dX12_hoursOfOil_82 rfl ?_
        refine o_cVm _ (ct_X12_isThere hl d g_78 False) dX12_hoursOfOil_83 ml_X12_144 yw_X12_isThere rfl (by decide) (by omega) (by decide) rfl rfl rfl (Nat.le_of_ble_eq_true rfl) (fun g_83 q_83 => ?_)
        refine o_ifb_eq (tgt := 93) dX12_hoursOfOil_86 (by decide) (fun _ => ?_) (fun c => c.elim)
        refine o_iconst dX12_hoursOfOil_93 ?_
        refine o_ret1 dX12_hoursOfOil_94 trivial ?_
        have k3 := o_mk_t (o_mk_c ⟨by decide, by decide⟩ e_12) (o_mk_t (o_mk_s f1) (o_mk_t (o_mk_c ⟨by decide, by decide⟩ e_78) (o_mk_7 q_83)))
        have t := o_md_k (M' := M) hmd (sr_cpy hmd.1 hwf.1 (fun j hj => by
          rw [q_83, o_e_n (by decide), e_78]
          unfold o_cp
          rw [if_pos ⟨rfl, by omega, by omega⟩, f1 195 (fun q => absurd (show 195 = 193 from q) (by decide)), e_12]
          unfold o_cp
          rw [if_pos ⟨rfl, by omega, by omega⟩]
          congr 1 <;> omega)) k3
        rw [if_pos (by omega)] at hr
        subst hr
        rw [if_pos rfl, if_pos rfl]
        refine r_xI rfl ⟨by rw [q_83, o_e_s, o_b0 (fun q : False => q)]; rfl, t⟩
      · skip
        exfalso
        omega
    · skip
      refine o_aload_n dX12_hoursOfOil_24 rfl ?_
      refine o_cV _ (ct_X12_needed hl d g1 B h1 hI.1) dX12_hoursOfOil_25 ml_X12_154 yw_X12_needed rfl (by decide) (by omega) (by decide) rfl rfl rfl (Nat.le_of_ble_eq_true rfl) ?_
      refine o_aload_n dX12_hoursOfOil_28 rfl ?_
      refine o_gf dX12_hoursOfOil_29 fl_X12_9 rfl (by decide) rfl ?_
      refine o_iconst dX12_hoursOfOil_32 ?_
      refine o_ialdn (j := 2) dX12_hoursOfOil_33 (by decide) rfl (by decide) (by first | rfl | omega) (by omega) ?_
      refine o_icmp_gt (tgt := 53) dX12_hoursOfOil_34 (by decide) ⟨by omega, by omega⟩ ⟨by omega, by omega⟩ (fun c_34 => ?_) (fun c_34 => ?_)
      · skip
        refine o_aload_n dX12_hoursOfOil_53 rfl ?_
        refine o_cV _ (ct_X12_leased hl d g1 B h1 hI.1) dX12_hoursOfOil_54 ml_X12_151 yw_X12_leased rfl (by decide) (by omega) (by decide) rfl rfl rfl (Nat.le_of_ble_eq_true rfl) ?_
        refine o_if_le (tgt := 64) dX12_hoursOfOil_57 (by decide) ⟨by omega, by omega⟩ (fun c_57 => ?_) (fun c_57 => ?_)
        · skip
          exfalso
          omega
        · skip
          refine o_iconst dX12_hoursOfOil_60 ?_
          refine o_goto (tgt := 65) dX12_hoursOfOil_61 (by decide) ?_
          refine o_istore_n dX12_hoursOfOil_65 (by decide) ?_
          refine o_aload_n dX12_hoursOfOil_66 rfl ?_
          refine o_gf dX12_hoursOfOil_67 fl_X12_16 rfl (by decide) rfl ?_
          refine o_iconst dX12_hoursOfOil_70 ?_
          refine o_aload_n dX12_hoursOfOil_71 rfl ?_
          refine o_gf dX12_hoursOfOil_72 fl_X12_9 rfl (by decide) rfl ?_
          refine o_iconst dX12_hoursOfOil_75 ?_
          refine o_bipush dX12_hoursOfOil_76 (by decide) ?_
          refine o_cpE (sp := 0) (dp := 0) (m0 := 81) dX12_hoursOfOil_78 ml_X12_45 (by decide) (by decide) rfl rfl (by decide) (by decide) (by first | rfl | omega) (by first | rfl | omega) (by first | rfl | omega) (by omega) (by omega) (Nat.le_of_ble_eq_true rfl) (fun _ => rfl) (by decide) (fun g_78 e_78 => ?_)
          refine o_aload_n dX12_hoursOfOil_81 rfl ?_
          refine o_iload_n dX12_hoursOfOil_82 rfl ?_
          refine o_cVm _ (ct_X12_isThere hl d g_78 True) dX12_hoursOfOil_83 ml_X12_144 yw_X12_isThere rfl (by decide) (by omega) (by decide) rfl rfl rfl (Nat.le_of_ble_eq_true rfl) (fun g_83 q_83 => ?_)
          refine o_ifb_eq (tgt := 93) dX12_hoursOfOil_86 (by decide) (fun c => absurd trivial c) (fun _ => ?_)
          refine o_iload_n dX12_hoursOfOil_89 rfl ?_
          refine o_goto (tgt := 94) dX12_hoursOfOil_90 (by decide) ?_
          refine o_ret1 dX12_hoursOfOil_94 trivial ?_
          have k3 := o_mk_t (o_mk_c ⟨by decide, by decide⟩ e_12) (o_mk_t (o_mk_s f1) (o_mk_t (o_mk_c ⟨by decide, by decide⟩ e_78) (o_mk_7 q_83)))
          have t := o_md_k (M' := M) hmd (sr_cpy hmd.1 hwf.1 (fun j hj => by
            rw [q_83, o_e_n (by decide), e_78]
            unfold o_cp
            rw [if_pos ⟨rfl, by omega, by omega⟩, f1 195 (fun q => absurd (show 195 = 193 from q) (by decide)), e_12]
            unfold o_cp
            rw [if_pos ⟨rfl, by omega, by omega⟩]
            congr 1 <;> omega)) k3
          rw [if_neg (by omega), if_pos (by omega)] at hr
          subst hr
          rw [if_neg (by omega), if_neg (by omega)]
          refine r_xI rfl ⟨by rw [q_83, o_e_s, o_b1 trivial]; rfl, t⟩
      · skip
        refine o_aload_n dX12_hoursOfOil_37 rfl ?_
        refine o_cVm _ (ct_X12_burns hl d g1 B h1 hI.1) dX12_hoursOfOil_38 ml_X12_132 yw_X12_burns rfl (by decide) (by omega) (by decide) rfl rfl rfl (Nat.le_of_ble_eq_true rfl) (fun g_38 q_38 => ?_)
        refine o_istore_n dX12_hoursOfOil_41 (by decide) ?_
        refine o_aload_n dX12_hoursOfOil_42 rfl ?_
        refine o_cVm _ (ct_X12_endsLeases hl d g_38 (m_burns B) q_38.1 kb.1 (by omega)) dX12_hoursOfOil_43 ml_X12_138 yw_X12_endsLeases rfl (by decide) (by omega) (by decide) rfl rfl rfl (Nat.le_of_ble_eq_true rfl) (fun g_43 q_43 => ?_)
        refine o_istore_n dX12_hoursOfOil_46 (by decide) ?_
        refine o_iinc dX12_hoursOfOil_47 rfl (by decide) ?_
        refine o_goto (tgt := 17) dX12_hoursOfOil_50 (by decide) ?_
        rw [if_neg (by omega), if_neg (by omega), show f = 501 - (h + 1) by omega] at hr
        have hs8 := m_I_s hI (by omega) (by omega)
        exact o_loc [(0, .ref 192), (1, .int (o_I (((h + 1) : Nat) : Int)))] rfl (ih (by omega) g_43 _ q_43.1 hs8.1 (o_fr_t f1 (o_fr_t q_38.2 q_43.2)) (by rw [hs8.2]; omega) (by rw [hs8.2]; omega) (by rw [hs8.2, hD9]; exact hr)))
  refine o_aload_n dX12_hoursOfOil_0 rfl ?_
  refine o_gf dX12_hoursOfOil_1 fl_X12_9 rfl (by decide) rfl ?_
  refine o_iconst dX12_hoursOfOil_4 ?_
  refine o_aload_n dX12_hoursOfOil_5 rfl ?_
  refine o_gf dX12_hoursOfOil_6 fl_X12_16 rfl (by decide) rfl ?_
  refine o_iconst dX12_hoursOfOil_9 ?_
  refine o_bipush dX12_hoursOfOil_10 (by decide) ?_
  refine o_cpE (sp := 0) (dp := 0) (m0 := 81) dX12_hoursOfOil_12 ml_X12_45 (by decide) (by decide) rfl rfl (by decide) (by decide) (by first | rfl | omega) (by first | rfl | omega) (by first | rfl | omega) (by omega) (by omega) (Nat.le_of_ble_eq_true rfl) (fun _ => rfl) (by decide) (fun g_12 e_12 => ?_)
  refine o_iconst dX12_hoursOfOil_15 ?_
  refine o_istore_n dX12_hoursOfOil_16 (by decide) ?_
  exact o_loc _ rfl (key g_12 e_12 0 (Nat.zero_le _) g_12 M (by rw [e_12, o_cp_n (by decide)]; exact hmd.1) ⟨hwf.1, rfl, by omega, fun j hj => ⟨rfl, by by_cases q : 0 < M 5 j; (rw [if_pos ⟨q, by have := hwf.2.2.2 j hj q; omega⟩]); (rw [if_neg (fun z => q z.1)]; have := (hwf.1.2.1.2.2.2.2 j hj).2.1; omega), fun _ => rfl⟩⟩ o_fr_r hwf.1.2.2.2.1.1 (by have := hwf.1.2.2.2.1.2; omega) hr9)
set_option maxRecDepth 100000 in
set_option maxHeartbeats 4000000 in
/-- hoursOfOilByEnds() -/
theorem ct_X12_hoursOfOilByEnds {l : Launch} (hl : l.stackTraces = false) (d : Nat) (g M : Nat → Nat → Int) (P : List (Nat → Nat → Int)) (S : Option (Nat → Nat → Int)) (T : Nat → Nat → Int) (hmd : o_md g M P S T) (hwf : o_wf M) (r : Int) (hr9 : n_hp M 501 0 (M 0 2) = r) : o_Ct l yX12_hoursOfOilByEnds wX12_hoursOfOilByEnds (d + 5) o_no [.ref 192] o_N (o_mem g) 0 0 (r_x (if r = -1 then 1 else 0) (if r = -1 then 0 else r) M P S T g) := by
  refine o_Ct.ofV hl mX12_hoursOfOilByEnds (by decide +kernel) rfl rfl rfl (Nat.le_of_ble_eq_true rfl) ?_
  refine o_aload_n dX12_hoursOfOilByEnds_0 rfl ?_
  refine o_cVm _ (ct_X12_hoursOfOil hl d g M P S T hmd hwf r hr9) dX12_hoursOfOilByEnds_1 ml_X12_157 yw_X12_hoursOfOil rfl (by decide) (by omega) (by decide) rfl rfl rfl (Nat.le_of_ble_eq_true rfl) (fun g_1 q_1 => ?_)
  refine o_ret1 dX12_hoursOfOilByEnds_4 trivial ?_
  exact r_xI rfl q_1
