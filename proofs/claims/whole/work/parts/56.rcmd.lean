/-! the reference reads a command -/
def p_cd (s : Nat) : Int := match s with
  | 0 => 115
  | 1 => 97
  | 2 => 111
  | 3 => 108
  | 4 => 114
  | 5 => 100
  | _ => 119
def o_cA (g : Nat → Nat → Int) (k : Nat) (c : Nat × List Int) : Prop := g 200 (4 * k) = p_cd c.1 ∧ ∀ i, i < c.2.length → g 200 (4 * k + 1 + i) = c.2.getD i 0
def o_pc (g g' : Nat → Nat → Int) : Prop := (∀ a, a ≠ 192 → a ≠ 200 → g' a = g a) ∧ ∀ j, j ≠ 12 → j ≠ 13 → j ≠ 18 → g' 192 j = g 192 j
theorem o_pc_r {g : Nat → Nat → Int} : o_pc g g := ⟨fun _ _ _ => rfl, fun _ _ _ _ => rfl⟩
theorem o_pc_t {g g1 g2 : Nat → Nat → Int} (h1 : o_pc g g1) (h2 : o_pc g1 g2) : o_pc g g2 := ⟨fun a h i => (h2.1 a h i).trans (h1.1 a h i), fun j a b c => (h2.2 j a b c).trans (h1.2 j a b c)⟩
theorem o_pc_k {g g1 g2 : Nat → Nat → Int} (h1 : o_pc g g1) (h2 : o_pk g1 g2) : o_pc g g2 := o_pc_t h1 ⟨fun a h _ => h2.1 a h, fun j a b _ => h2.2 j a b⟩
theorem o_pc_18 {g g1 g2 : Nat → Nat → Int} {z : Int} (h1 : o_pc g g1) (e : g2 = o_e g1 192 18 z) : o_pc g g2 := o_pc_t h1 ⟨fun a h _ => by rw [e, o_e_n h], fun j _ _ h => by rw [e, o_e_k h]⟩
theorem o_pc_c {g g1 g2 : Nat → Nat → Int} {j : Nat} {z : Int} (h1 : o_pc g g1) (e : g2 = o_e g1 200 j z) : o_pc g g2 := o_pc_t h1 ⟨fun a _ h => by rw [e, o_e_n h], fun i _ _ _ => by rw [e, o_e_n (by decide)]⟩
theorem o_pv_18 {g g2 : Nat → Nat → Int} {t : Nat → Int} {n p : Nat} {b : Bool} {z : Int} (h : o_pv g t n p b) (e : g2 = o_e g 192 18 z) : o_pv g2 t n p b := by
  rw [e]
  exact ⟨by rw [o_e_k (by decide)]; exact h.1, fun j hj => by rw [o_e_n (by decide)]; exact h.2.1 j hj, by rw [o_e_k (by decide)]; exact h.2.2.1, by rw [o_e_k (by decide)]; exact h.2.2.2.1, h.2.2.2.2⟩
theorem o_pv_c {g g2 : Nat → Nat → Int} {t : Nat → Int} {n p : Nat} {b : Bool} {i : Nat} {z : Int} (h : o_pv g t n p b) (e : g2 = o_e g 200 i z) : o_pv g2 t n p b := by
  rw [e]
  exact ⟨by rw [o_e_n (by decide)]; exact h.1, fun j hj => by rw [o_e_n (by decide)]; exact h.2.1 j hj, by rw [o_e_n (by decide)]; exact h.2.2.1, by rw [o_e_n (by decide)]; exact h.2.2.2.1, h.2.2.2.2⟩
theorem p_ok0 {t : Nat → Int} {n p : Nat} (hs : p_sel t n p = 0) (hok : (p_cmd t n p).1 = true) : p_tx t n p = 115 := by
  by_cases y : p_tx t n p = 115
  · exact y
  · exfalso
    have hcl : p_cl t n (p_W 0) p = 0 := p_cl_0 y
    unfold p_cmd at hok
    rw [hs, hcl, if_neg (by decide)] at hok
    cases hok
theorem o_wtW0 : o_wt 24 (p_W 0) := ⟨by decide, by decide, by decide⟩
theorem o_wtW1 : o_wt 23 (p_W 1) := ⟨by decide, by decide, by decide⟩
theorem o_wtW2 : o_wt 26 (p_W 2) := ⟨by decide, by decide, by decide⟩
theorem o_wtW3 : o_wt 27 (p_W 3) := ⟨by decide, by decide, by decide⟩
theorem o_wtW4 : o_wt 28 (p_W 4) := ⟨by decide, by decide, by decide⟩
theorem o_wtW5 : o_wt 29 (p_W 5) := ⟨by decide, by decide, by decide⟩
theorem o_wtW6 : o_wt 30 (p_W 6) := ⟨by decide, by decide, by decide⟩
set_option maxRecDepth 100000 in
set_option maxHeartbeats 4000000 in
/-- readCommand() -/
theorem ct_X12_readCommand {l : Launch} (hl : l.stackTraces = false) (d : Nat) (g : Nat → Nat → Int) (t : Nat → Int) (n p : Nat) (hn : n ≤ 60) (ht : ∀ j, j < n → 0 ≤ t j ∧ t j < 65536) (hv : o_pv g t n p false) (k : Nat) (hk : k < 60) (h18 : g 192 18 = k) : o_Ct l yX12_readCommand wX12_readCommand (d + 9) o_no [.ref 192] o_N (o_mem g) 0 0 (o_mt none (fun g' => o_pv g' t n (p_cmd t n p).2.1 (!(p_cmd t n p).1) ∧ o_pc g g' ∧ g' 192 18 = (k : Int) + 1 ∧ (∀ j, j < 4 * k → g' 200 j = g 200 j) ∧ ((p_cmd t n p).1 = true → o_cA g' k (p_cmd t n p).2.2))) := by
  refine o_Ct.ofV hl mX12_readCommand (by decide +kernel) rfl rfl rfl (Nat.le_of_ble_eq_true rfl) ?_
  have htx0 := p_tx_R ht p
  have htx1 := p_tx_R ht (p + 1)
  obtain ⟨X, hX⟩ : ∃ X, p_tx t n p = X := ⟨_, rfl⟩
  rw [hX] at htx0
  have keyK : ∀ K : Int, o_R K → ((K = 97 ∧ X = 108 ∧ p_tx t n (p + 1) = 97) ∨ (K = X ∧ ¬ (X = 108 ∧ p_tx t n (p + 1) = 97))) → o_V l mX12_readCommand (d + 9) o_no (o_mt none (fun g' => o_pv g' t n (p_cmd t n p).2.1 (!(p_cmd t n p).1) ∧ o_pc g g' ∧ g' 192 18 = (k : Int) + 1 ∧ (∀ j, j < 4 * k → g' 200 j = g 200 j) ∧ ((p_cmd t n p).1 = true → o_cA g' k (p_cmd t n p).2.2))) 36 [(0, .ref 192), (1, .int (o_I X))] [.int (o_I K)] o_N (o_mem g) 0 0 := fun K hKR hK => by
    refine o_istore_n dX12_readCommand_36 (by decide) ?_
    refine o_iconst dX12_readCommand_37 ?_
    refine o_aload_n dX12_readCommand_38 rfl ?_
    refine o_gf dX12_readCommand_39 fl_X12_213 rfl (by decide) rfl ?_
    refine o_imul dX12_readCommand_42 ?_
    refine o_istore_n dX12_readCommand_43 (by decide) ?_
    refine o_aload_n dX12_readCommand_44 rfl ?_
    refine o_dup dX12_readCommand_45 rfl ?_
    refine o_gf dX12_readCommand_46 fl_X12_213 rfl (by decide) rfl ?_
    refine o_iconst dX12_readCommand_49 ?_
    refine o_iadd dX12_readCommand_50 ?_
    refine o_pmE dX12_readCommand_51 fp_X12_213 rfl (by decide) (Nat.le_of_ble_eq_true rfl) rfl rfl (fun _ => rfl) (by decide) (fun g_51 e_51 => ?_)
    refine o_aload_n dX12_readCommand_54 rfl ?_
    refine o_gf dX12_readCommand_55 fl_X12_39 rfl (by decide) rfl ?_
    refine o_iload_n dX12_readCommand_58 rfl ?_
    refine o_iload_n dX12_readCommand_59 rfl ?_
    refine o_iaEn (j := (4 * k)) dX12_readCommand_60 rfl (by decide) (by decide) (by first | rfl | omega) (by omega) (fun _ => rfl) (by decide) (fun g_60 e_60 => ?_)
    refine o_iload_n dX12_readCommand_61 rfl ?_
    have hv60 : o_pv g_60 t n p false := o_pv_c (o_pv_18 hv e_51) e_60
    have f60 : o_pc g g_60 := o_pc_c (o_pc_18 o_pc_r e_51) e_60
    have v18 : g_60 192 18 = (k : Int) + 1 := by rw [e_60, o_e_n (by decide), e_51, o_e_s]; omega
    have vK : g_60 200 (4 * k) = K := by rw [e_60, o_e_s]
    have vo : ∀ j, j < 4 * k → g_60 200 j = g 200 j := fun j hj => by rw [e_60, o_e_k (by omega), e_51, o_e_n (by decide)]
    refine o_loc [(0, .ref 192), (1, .int (o_I X)), (2, .int (o_I K)), (3, .int (o_I ((4 * k : Nat) : Int)))] (by rw [show (4 * g 192 18 : Int) = ((4 * k : Nat) : Int) by omega]; rfl) ?_
    rcases hK with ⟨rfl, hx, h97⟩ | ⟨rfl, hnot⟩
    · refine o_lookup (off := 58) (tgt := 120) dX12_readCommand_62 (by decide) (by decide) (by decide) ?_
      have hs : p_sel t n p = 1 := by unfold p_sel; rw [hX, if_pos hx, if_pos h97]
      refine o_aload_n dX12_readCommand_120 rfl ?_
      refine o_iload_n dX12_readCommand_121 rfl ?_
      refine o_bipush dX12_readCommand_122 (by decide) ?_
      refine o_icmp_ne (tgt := 132) dX12_readCommand_124 (by decide) ⟨by omega, by omega⟩ ⟨by omega, by omega⟩ (fun c => absurd hx c) (fun _ => ?_)
      refine o_ldcS (num := 23) dX12_readCommand_127 (show (RX12, 216, "lamp", 23) ∈ o_str by decide) ?_
      refine o_goto (tgt := 134) dX12_readCommand_129 (by decide) ?_
      refine o_cVm _ (ct_X12_skip hl (d + 2) g_60 t n p hn ht false hv60 23 (p_W 1) o_wtW1) dX12_readCommand_134 ml_X12_205 yw_X12_skip rfl (by decide) (by omega) (by decide) rfl rfl rfl (Nat.le_of_ble_eq_true rfl) (fun g_134 q_134 => ?_)
      obtain ⟨hv134, f134⟩ := q_134
      have c134 : g_134 200 = g_60 200 := f134.1 200 (by decide)
      have w134 : g_134 192 18 = (k : Int) + 1 := (f134.2 18 (by decide) (by decide)).trans v18
      refine o_aload_n dX12_readCommand_137 rfl ?_
      refine o_gf dX12_readCommand_138 fl_X12_39 rfl (by decide) rfl ?_
      refine o_iload_n dX12_readCommand_141 rfl ?_
      refine o_iconst dX12_readCommand_142 ?_
      refine o_iadd dX12_readCommand_143 ?_
      refine o_aload_n dX12_readCommand_144 rfl ?_
      refine o_iconst dX12_readCommand_145 ?_
      refine o_cVm _ (ct_X12_readNumber hl d g_134 t n (s_sk t n (p_W 1) false p).2 hn ht (s_sk t n (p_W 1) false p).1 hv134 1 (by decide)) dX12_readCommand_146 ml_X12_220 yw_X12_readNumber rfl (by decide) (by omega) (by decide) rfl rfl rfl (Nat.le_of_ble_eq_true rfl) (fun g_146 q_146 => ?_)
      obtain ⟨hv146, f146⟩ := q_146
      refine o_iaEn (j := (4 * k + 1)) dX12_readCommand_149 rfl (by decide) (by decide) (by first | rfl | omega) (by omega) (fun _ => rfl) (by decide) (fun g_149 e_149 => ?_)
      have hv149 := o_pv_c hv146 e_149
      have w149 : g_149 192 18 = (k : Int) + 1 := by rw [e_149, o_e_n (by decide)]; exact (f146.2 18 (by decide) (by decide)).trans w134
      have c149 : ∀ j, j ≠ 4 * k + 1 → g_149 200 j = g_134 200 j := fun j hj => by rw [e_149, o_e_k hj, f146.1 200 (by decide)]
      have x149 : g_149 200 (4 * k + 1) = (s_nm t n 1 (s_sk t n (p_W 1) false p).1 (s_sk t n (p_W 1) false p).2).2.2 := by rw [e_149, o_e_s]
      refine o_goto (tgt := 329) dX12_readCommand_150 (by decide) ?_
      refine o_ret0 dX12_readCommand_329 trivial ?_
      have h := s_cmd (t := t) (n := n) (p := p) (by rw [hs]; decide)
      rw [hs] at h
      refine o_mt0 ⟨?_, o_pc_c (o_pc_k (o_pc_k f60 f134) f146) e_149, w149, fun j hj => by rw [c149 _ (by omega), c134]; exact vo j hj, fun hok => ?_⟩
      · rw [← h.1, ← h.2.1]; exact hv149
      · rw [h.2.2 hok]
        refine ⟨by rw [c149 _ (by omega), c134]; exact vK, fun i hi => ?_⟩
        have hi : i < 1 := hi
        rcases (by omega : i = 0) with rfl
        rw [show 4 * k + 1 + 0 = 4 * k + 1 by omega]; exact x149
    · by_cases x1 : K = 97
      · subst x1
        refine o_lookup (off := 58) (tgt := 120) dX12_readCommand_62 (by decide) (by decide) (by decide) ?_
        have hs : p_sel t n p = 0 := by unfold p_sel; rw [hX, if_neg (by omega), if_neg (by omega), if_neg (by omega), if_neg (by omega), if_neg (by omega)]
        refine o_aload_n dX12_readCommand_120 rfl ?_
        refine o_iload_n dX12_readCommand_121 rfl ?_
        refine o_bipush dX12_readCommand_122 (by decide) ?_
        refine o_icmp_ne (tgt := 132) dX12_readCommand_124 (by decide) ⟨by omega, by omega⟩ ⟨by omega, by omega⟩ (fun _ => ?_) (fun c => absurd c (by omega))
        refine o_ldcS (num := 24) dX12_readCommand_132 (show (RX12, 218, "ship", 24) ∈ o_str by decide) ?_
        refine o_cVm _ (ct_X12_skip hl (d + 2) g_60 t n p hn ht false hv60 24 (p_W 0) o_wtW0) dX12_readCommand_134 ml_X12_205 yw_X12_skip rfl (by decide) (by omega) (by decide) rfl rfl rfl (Nat.le_of_ble_eq_true rfl) (fun g_134 q_134 => ?_)
        obtain ⟨hv134, f134⟩ := q_134
        have c134 : g_134 200 = g_60 200 := f134.1 200 (by decide)
        have w134 : g_134 192 18 = (k : Int) + 1 := (f134.2 18 (by decide) (by decide)).trans v18
        refine o_aload_n dX12_readCommand_137 rfl ?_
        refine o_gf dX12_readCommand_138 fl_X12_39 rfl (by decide) rfl ?_
        refine o_iload_n dX12_readCommand_141 rfl ?_
        refine o_iconst dX12_readCommand_142 ?_
        refine o_iadd dX12_readCommand_143 ?_
        refine o_aload_n dX12_readCommand_144 rfl ?_
        refine o_iconst dX12_readCommand_145 ?_
        refine o_cVm _ (ct_X12_readNumber hl d g_134 t n (s_sk t n (p_W 0) false p).2 hn ht (s_sk t n (p_W 0) false p).1 hv134 1 (by decide)) dX12_readCommand_146 ml_X12_220 yw_X12_readNumber rfl (by decide) (by omega) (by decide) rfl rfl rfl (Nat.le_of_ble_eq_true rfl) (fun g_146 q_146 => ?_)
        obtain ⟨hv146, f146⟩ := q_146
        refine o_iaEn (j := (4 * k + 1)) dX12_readCommand_149 rfl (by decide) (by decide) (by first | rfl | omega) (by omega) (fun _ => rfl) (by decide) (fun g_149 e_149 => ?_)
        have hv149 := o_pv_c hv146 e_149
        have w149 : g_149 192 18 = (k : Int) + 1 := by rw [e_149, o_e_n (by decide)]; exact (f146.2 18 (by decide) (by decide)).trans w134
        have c149 : ∀ j, j ≠ 4 * k + 1 → g_149 200 j = g_134 200 j := fun j hj => by rw [e_149, o_e_k hj, f146.1 200 (by decide)]
        have x149 : g_149 200 (4 * k + 1) = (s_nm t n 1 (s_sk t n (p_W 0) false p).1 (s_sk t n (p_W 0) false p).2).2.2 := by rw [e_149, o_e_s]
        refine o_goto (tgt := 329) dX12_readCommand_150 (by decide) ?_
        refine o_ret0 dX12_readCommand_329 trivial ?_
        have hcl : p_cl t n (p_W 0) p = 0 := p_cl_0 (by omega)
        have hsk : s_sk t n (p_W 0) false p = (true, p) := by
          show (decide _, _) = _
          rw [hcl]; rfl
        have hpc : (p_cmd t n p).1 = false ∧ (p_cmd t n p).2.1 = p := by
          unfold p_cmd p_we
          rw [hs, hcl, if_neg (by decide)]
          exact ⟨rfl, rfl⟩
        rw [hsk] at hv149
        refine o_mt0 ⟨by rw [hpc.1, hpc.2]; exact hv149, o_pc_c (o_pc_k (o_pc_k f60 f134) f146) e_149, w149, fun j hj => by rw [c149 _ (by omega), c134]; exact vo j hj, fun hok => ?_⟩
        rw [hpc.1] at hok
        cases hok
      · by_cases x2 : K = 108
        · subst x2
          refine o_lookup (off := 113) (tgt := 175) dX12_readCommand_62 (by decide) (by decide) (by decide) ?_
          have hs : p_sel t n p = 3 := by unfold p_sel; rw [hX, if_pos rfl, if_neg (fun z => hnot ⟨rfl, z⟩)]
          refine o_aload_n dX12_readCommand_175 rfl ?_
          refine o_ldcS (num := 27) dX12_readCommand_176 (show (RX12, 225, "lease", 27) ∈ o_str by decide) ?_
          refine o_cVm _ (ct_X12_skip hl (d + 2) g_60 t n p hn ht false hv60 27 (p_W 3) o_wtW3) dX12_readCommand_178 ml_X12_205 yw_X12_skip rfl (by decide) (by omega) (by decide) rfl rfl rfl (Nat.le_of_ble_eq_true rfl) (fun g_178 q_178 => ?_)
          obtain ⟨hv178, f178⟩ := q_178
          have c178 : g_178 200 = g_60 200 := f178.1 200 (by decide)
          have w178 : g_178 192 18 = (k : Int) + 1 := (f178.2 18 (by decide) (by decide)).trans v18
          refine o_aload_n dX12_readCommand_181 rfl ?_
          refine o_gf dX12_readCommand_182 fl_X12_39 rfl (by decide) rfl ?_
          refine o_iload_n dX12_readCommand_185 rfl ?_
          refine o_iconst dX12_readCommand_186 ?_
          refine o_iadd dX12_readCommand_187 ?_
          refine o_aload_n dX12_readCommand_188 rfl ?_
          refine o_iconst dX12_readCommand_189 ?_
          refine o_cVm _ (ct_X12_readNumber hl d g_178 t n (s_sk t n (p_W 3) false p).2 hn ht (s_sk t n (p_W 3) false p).1 hv178 1 (by decide)) dX12_readCommand_190 ml_X12_220 yw_X12_readNumber rfl (by decide) (by omega) (by decide) rfl rfl rfl (Nat.le_of_ble_eq_true rfl) (fun g_190 q_190 => ?_)
          obtain ⟨hv190, f190⟩ := q_190
          refine o_iaEn (j := (4 * k + 1)) dX12_readCommand_193 rfl (by decide) (by decide) (by first | rfl | omega) (by omega) (fun _ => rfl) (by decide) (fun g_193 e_193 => ?_)
          have hv193 := o_pv_c hv190 e_193
          have w193 : g_193 192 18 = (k : Int) + 1 := by rw [e_193, o_e_n (by decide)]; exact (f190.2 18 (by decide) (by decide)).trans w178
          have c193 : ∀ j, j ≠ 4 * k + 1 → g_193 200 j = g_178 200 j := fun j hj => by rw [e_193, o_e_k hj, f190.1 200 (by decide)]
          have x193 : g_193 200 (4 * k + 1) = (s_nm t n 1 (s_sk t n (p_W 3) false p).1 (s_sk t n (p_W 3) false p).2).2.2 := by rw [e_193, o_e_s]
          refine o_aload_n dX12_readCommand_194 rfl ?_
          refine o_gf dX12_readCommand_195 fl_X12_39 rfl (by decide) rfl ?_
          refine o_iload_n dX12_readCommand_198 rfl ?_
          refine o_iconst dX12_readCommand_199 ?_
          refine o_iadd dX12_readCommand_200 ?_
          refine o_aload_n dX12_readCommand_201 rfl ?_
          refine o_iconst dX12_readCommand_202 ?_
          refine o_cVm _ (ct_X12_readNumber hl d g_193 t n (s_nm t n 1 (s_sk t n (p_W 3) false p).1 (s_sk t n (p_W 3) false p).2).2.1 hn ht (s_nm t n 1 (s_sk t n (p_W 3) false p).1 (s_sk t n (p_W 3) false p).2).1 hv193 1 (by decide)) dX12_readCommand_203 ml_X12_220 yw_X12_readNumber rfl (by decide) (by omega) (by decide) rfl rfl rfl (Nat.le_of_ble_eq_true rfl) (fun g_203 q_203 => ?_)
          obtain ⟨hv203, f203⟩ := q_203
          refine o_iaEn (j := (4 * k + 2)) dX12_readCommand_206 rfl (by decide) (by decide) (by first | rfl | omega) (by omega) (fun _ => rfl) (by decide) (fun g_206 e_206 => ?_)
          have hv206 := o_pv_c hv203 e_206
          have w206 : g_206 192 18 = (k : Int) + 1 := by rw [e_206, o_e_n (by decide)]; exact (f203.2 18 (by decide) (by decide)).trans w193
          have c206 : ∀ j, j ≠ 4 * k + 2 → g_206 200 j = g_193 200 j := fun j hj => by rw [e_206, o_e_k hj, f203.1 200 (by decide)]
          have x206 : g_206 200 (4 * k + 2) = (s_nm t n 1 (s_nm t n 1 (s_sk t n (p_W 3) false p).1 (s_sk t n (p_W 3) false p).2).1 (s_nm t n 1 (s_sk t n (p_W 3) false p).1 (s_sk t n (p_W 3) false p).2).2.1).2.2 := by rw [e_206, o_e_s]
          refine o_aload_n dX12_readCommand_207 rfl ?_
          refine o_gf dX12_readCommand_208 fl_X12_39 rfl (by decide) rfl ?_
          refine o_iload_n dX12_readCommand_211 rfl ?_
          refine o_iconst dX12_readCommand_212 ?_
          refine o_iadd dX12_readCommand_213 ?_
          refine o_aload_n dX12_readCommand_214 rfl ?_
          refine o_iconst dX12_readCommand_215 ?_
          refine o_cVm _ (ct_X12_readNumber hl d g_206 t n (s_nm t n 1 (s_nm t n 1 (s_sk t n (p_W 3) false p).1 (s_sk t n (p_W 3) false p).2).1 (s_nm t n 1 (s_sk t n (p_W 3) false p).1 (s_sk t n (p_W 3) false p).2).2.1).2.1 hn ht (s_nm t n 1 (s_nm t n 1 (s_sk t n (p_W 3) false p).1 (s_sk t n (p_W 3) false p).2).1 (s_nm t n 1 (s_sk t n (p_W 3) false p).1 (s_sk t n (p_W 3) false p).2).2.1).1 hv206 2 (by decide)) dX12_readCommand_216 ml_X12_220 yw_X12_readNumber rfl (by decide) (by omega) (by decide) rfl rfl rfl (Nat.le_of_ble_eq_true rfl) (fun g_216 q_216 => ?_)
          obtain ⟨hv216, f216⟩ := q_216
          refine o_iaEn (j := (4 * k + 3)) dX12_readCommand_219 rfl (by decide) (by decide) (by first | rfl | omega) (by omega) (fun _ => rfl) (by decide) (fun g_219 e_219 => ?_)
          have hv219 := o_pv_c hv216 e_219
          have w219 : g_219 192 18 = (k : Int) + 1 := by rw [e_219, o_e_n (by decide)]; exact (f216.2 18 (by decide) (by decide)).trans w206
          have c219 : ∀ j, j ≠ 4 * k + 3 → g_219 200 j = g_206 200 j := fun j hj => by rw [e_219, o_e_k hj, f216.1 200 (by decide)]
          have x219 : g_219 200 (4 * k + 3) = (s_nm t n 2 (s_nm t n 1 (s_nm t n 1 (s_sk t n (p_W 3) false p).1 (s_sk t n (p_W 3) false p).2).1 (s_nm t n 1 (s_sk t n (p_W 3) false p).1 (s_sk t n (p_W 3) false p).2).2.1).1 (s_nm t n 1 (s_nm t n 1 (s_sk t n (p_W 3) false p).1 (s_sk t n (p_W 3) false p).2).1 (s_nm t n 1 (s_sk t n (p_W 3) false p).1 (s_sk t n (p_W 3) false p).2).2.1).2.1).2.2 := by rw [e_219, o_e_s]
          refine o_goto (tgt := 329) dX12_readCommand_220 (by decide) ?_
          refine o_ret0 dX12_readCommand_329 trivial ?_
          have h := s_cmd (t := t) (n := n) (p := p) (by rw [hs]; decide)
          rw [hs] at h
          refine o_mt0 ⟨by rw [← h.1, ← h.2.1]; exact hv219, o_pc_c (o_pc_k (o_pc_c (o_pc_k (o_pc_c (o_pc_k (o_pc_k f60 f178) f190) e_193) f203) e_206) f216) e_219, w219, fun j hj => by rw [c219 _ (by omega), c206 _ (by omega), c193 _ (by omega), c178]; exact vo j hj, fun hok => ?_⟩
          rw [h.2.2 hok]
          refine ⟨by rw [c219 _ (by omega), c206 _ (by omega), c193 _ (by omega), c178]; exact vK, fun i hi => ?_⟩
          have hi : i < 3 := hi
          rcases (by omega : i = 0 ∨ i = 1 ∨ i = 2) with rfl | rfl | rfl
          · rw [show 4 * k + 1 + 0 = 4 * k + 1 by omega, c219 _ (by omega), c206 _ (by omega)]; exact x193
          · rw [show 4 * k + 1 + 1 = 4 * k + 2 by omega, c219 _ (by omega)]; exact x206
          · rw [show 4 * k + 1 + 2 = 4 * k + 3 by omega]; exact x219
        · by_cases x3 : K = 111
          · subst x3
            refine o_lookup (off := 91) (tgt := 153) dX12_readCommand_62 (by decide) (by decide) (by decide) ?_
            have hs : p_sel t n p = 2 := by unfold p_sel; rw [hX, if_neg (by decide), if_pos rfl]
            refine o_aload_n dX12_readCommand_153 rfl ?_
            refine o_ldcS (num := 26) dX12_readCommand_154 (show (RX12, 223, "oil", 26) ∈ o_str by decide) ?_
            refine o_cVm _ (ct_X12_skip hl (d + 2) g_60 t n p hn ht false hv60 26 (p_W 2) o_wtW2) dX12_readCommand_156 ml_X12_205 yw_X12_skip rfl (by decide) (by omega) (by decide) rfl rfl rfl (Nat.le_of_ble_eq_true rfl) (fun g_156 q_156 => ?_)
            obtain ⟨hv156, f156⟩ := q_156
            have c156 : g_156 200 = g_60 200 := f156.1 200 (by decide)
            have w156 : g_156 192 18 = (k : Int) + 1 := (f156.2 18 (by decide) (by decide)).trans v18
            refine o_aload_n dX12_readCommand_159 rfl ?_
            refine o_gf dX12_readCommand_160 fl_X12_39 rfl (by decide) rfl ?_
            refine o_iload_n dX12_readCommand_163 rfl ?_
            refine o_iconst dX12_readCommand_164 ?_
            refine o_iadd dX12_readCommand_165 ?_
            refine o_aload_n dX12_readCommand_166 rfl ?_
            refine o_iconst dX12_readCommand_167 ?_
            refine o_cVm _ (ct_X12_readNumber hl d g_156 t n (s_sk t n (p_W 2) false p).2 hn ht (s_sk t n (p_W 2) false p).1 hv156 3 (by decide)) dX12_readCommand_168 ml_X12_220 yw_X12_readNumber rfl (by decide) (by omega) (by decide) rfl rfl rfl (Nat.le_of_ble_eq_true rfl) (fun g_168 q_168 => ?_)
            obtain ⟨hv168, f168⟩ := q_168
            refine o_iaEn (j := (4 * k + 1)) dX12_readCommand_171 rfl (by decide) (by decide) (by first | rfl | omega) (by omega) (fun _ => rfl) (by decide) (fun g_171 e_171 => ?_)
            have hv171 := o_pv_c hv168 e_171
            have w171 : g_171 192 18 = (k : Int) + 1 := by rw [e_171, o_e_n (by decide)]; exact (f168.2 18 (by decide) (by decide)).trans w156
            have c171 : ∀ j, j ≠ 4 * k + 1 → g_171 200 j = g_156 200 j := fun j hj => by rw [e_171, o_e_k hj, f168.1 200 (by decide)]
            have x171 : g_171 200 (4 * k + 1) = (s_nm t n 3 (s_sk t n (p_W 2) false p).1 (s_sk t n (p_W 2) false p).2).2.2 := by rw [e_171, o_e_s]
            refine o_goto (tgt := 329) dX12_readCommand_172 (by decide) ?_
            refine o_ret0 dX12_readCommand_329 trivial ?_
            have h := s_cmd (t := t) (n := n) (p := p) (by rw [hs]; decide)
            rw [hs] at h
            refine o_mt0 ⟨by rw [← h.1, ← h.2.1]; exact hv171, o_pc_c (o_pc_k (o_pc_k f60 f156) f168) e_171, w171, fun j hj => by rw [c171 _ (by omega), c156]; exact vo j hj, fun hok => ?_⟩
            rw [h.2.2 hok]
            refine ⟨by rw [c171 _ (by omega), c156]; exact vK, fun i hi => ?_⟩
            have hi : i < 1 := hi
            rcases (by omega : i = 0) with rfl
            · rw [show 4 * k + 1 + 0 = 4 * k + 1 by omega]; exact x171
          · by_cases x4 : K = 114
            · subst x4
              refine o_lookup (off := 161) (tgt := 223) dX12_readCommand_62 (by decide) (by decide) (by decide) ?_
              have hs : p_sel t n p = 4 := by unfold p_sel; rw [hX, if_neg (by decide), if_neg (by decide), if_pos rfl]
              refine o_aload_n dX12_readCommand_223 rfl ?_
              refine o_ldcS (num := 28) dX12_readCommand_224 (show (RX12, 227, "renew", 28) ∈ o_str by decide) ?_
              refine o_cVm _ (ct_X12_skip hl (d + 2) g_60 t n p hn ht false hv60 28 (p_W 4) o_wtW4) dX12_readCommand_226 ml_X12_205 yw_X12_skip rfl (by decide) (by omega) (by decide) rfl rfl rfl (Nat.le_of_ble_eq_true rfl) (fun g_226 q_226 => ?_)
              obtain ⟨hv226, f226⟩ := q_226
              have c226 : g_226 200 = g_60 200 := f226.1 200 (by decide)
              have w226 : g_226 192 18 = (k : Int) + 1 := (f226.2 18 (by decide) (by decide)).trans v18
              refine o_aload_n dX12_readCommand_229 rfl ?_
              refine o_gf dX12_readCommand_230 fl_X12_39 rfl (by decide) rfl ?_
              refine o_iload_n dX12_readCommand_233 rfl ?_
              refine o_iconst dX12_readCommand_234 ?_
              refine o_iadd dX12_readCommand_235 ?_
              refine o_aload_n dX12_readCommand_236 rfl ?_
              refine o_iconst dX12_readCommand_237 ?_
              refine o_cVm _ (ct_X12_readNumber hl d g_226 t n (s_sk t n (p_W 4) false p).2 hn ht (s_sk t n (p_W 4) false p).1 hv226 1 (by decide)) dX12_readCommand_238 ml_X12_220 yw_X12_readNumber rfl (by decide) (by omega) (by decide) rfl rfl rfl (Nat.le_of_ble_eq_true rfl) (fun g_238 q_238 => ?_)
              obtain ⟨hv238, f238⟩ := q_238
              refine o_iaEn (j := (4 * k + 1)) dX12_readCommand_241 rfl (by decide) (by decide) (by first | rfl | omega) (by omega) (fun _ => rfl) (by decide) (fun g_241 e_241 => ?_)
              have hv241 := o_pv_c hv238 e_241
              have w241 : g_241 192 18 = (k : Int) + 1 := by rw [e_241, o_e_n (by decide)]; exact (f238.2 18 (by decide) (by decide)).trans w226
              have c241 : ∀ j, j ≠ 4 * k + 1 → g_241 200 j = g_226 200 j := fun j hj => by rw [e_241, o_e_k hj, f238.1 200 (by decide)]
              have x241 : g_241 200 (4 * k + 1) = (s_nm t n 1 (s_sk t n (p_W 4) false p).1 (s_sk t n (p_W 4) false p).2).2.2 := by rw [e_241, o_e_s]
              refine o_aload_n dX12_readCommand_242 rfl ?_
              refine o_gf dX12_readCommand_243 fl_X12_39 rfl (by decide) rfl ?_
              refine o_iload_n dX12_readCommand_246 rfl ?_
              refine o_iconst dX12_readCommand_247 ?_
              refine o_iadd dX12_readCommand_248 ?_
              refine o_aload_n dX12_readCommand_249 rfl ?_
              refine o_iconst dX12_readCommand_250 ?_
              refine o_cVm _ (ct_X12_readNumber hl d g_241 t n (s_nm t n 1 (s_sk t n (p_W 4) false p).1 (s_sk t n (p_W 4) false p).2).2.1 hn ht (s_nm t n 1 (s_sk t n (p_W 4) false p).1 (s_sk t n (p_W 4) false p).2).1 hv241 2 (by decide)) dX12_readCommand_251 ml_X12_220 yw_X12_readNumber rfl (by decide) (by omega) (by decide) rfl rfl rfl (Nat.le_of_ble_eq_true rfl) (fun g_251 q_251 => ?_)
              obtain ⟨hv251, f251⟩ := q_251
              refine o_iaEn (j := (4 * k + 2)) dX12_readCommand_254 rfl (by decide) (by decide) (by first | rfl | omega) (by omega) (fun _ => rfl) (by decide) (fun g_254 e_254 => ?_)
              have hv254 := o_pv_c hv251 e_254
              have w254 : g_254 192 18 = (k : Int) + 1 := by rw [e_254, o_e_n (by decide)]; exact (f251.2 18 (by decide) (by decide)).trans w241
              have c254 : ∀ j, j ≠ 4 * k + 2 → g_254 200 j = g_241 200 j := fun j hj => by rw [e_254, o_e_k hj, f251.1 200 (by decide)]
              have x254 : g_254 200 (4 * k + 2) = (s_nm t n 2 (s_nm t n 1 (s_sk t n (p_W 4) false p).1 (s_sk t n (p_W 4) false p).2).1 (s_nm t n 1 (s_sk t n (p_W 4) false p).1 (s_sk t n (p_W 4) false p).2).2.1).2.2 := by rw [e_254, o_e_s]
              refine o_goto (tgt := 329) dX12_readCommand_255 (by decide) ?_
              refine o_ret0 dX12_readCommand_329 trivial ?_
              have h := s_cmd (t := t) (n := n) (p := p) (by rw [hs]; decide)
              rw [hs] at h
              refine o_mt0 ⟨by rw [← h.1, ← h.2.1]; exact hv254, o_pc_c (o_pc_k (o_pc_c (o_pc_k (o_pc_k f60 f226) f238) e_241) f251) e_254, w254, fun j hj => by rw [c254 _ (by omega), c241 _ (by omega), c226]; exact vo j hj, fun hok => ?_⟩
              rw [h.2.2 hok]
              refine ⟨by rw [c254 _ (by omega), c241 _ (by omega), c226]; exact vK, fun i hi => ?_⟩
              have hi : i < 2 := hi
              rcases (by omega : i = 0 ∨ i = 1) with rfl | rfl
              · rw [show 4 * k + 1 + 0 = 4 * k + 1 by omega, c254 _ (by omega)]; exact x241
              · rw [show 4 * k + 1 + 1 = 4 * k + 2 by omega]; exact x254
            · by_cases x5 : K = 100
              · subst x5
                refine o_lookup (off := 196) (tgt := 258) dX12_readCommand_62 (by decide) (by decide) (by decide) ?_
                have hs : p_sel t n p = 5 := by unfold p_sel; rw [hX, if_neg (by decide), if_neg (by decide), if_neg (by decide), if_pos rfl]
                refine o_aload_n dX12_readCommand_258 rfl ?_
                refine o_ldcS (num := 29) dX12_readCommand_259 (show (RX12, 229, "drop", 29) ∈ o_str by decide) ?_
                refine o_cVm _ (ct_X12_skip hl (d + 2) g_60 t n p hn ht false hv60 29 (p_W 5) o_wtW5) dX12_readCommand_261 ml_X12_205 yw_X12_skip rfl (by decide) (by omega) (by decide) rfl rfl rfl (Nat.le_of_ble_eq_true rfl) (fun g_261 q_261 => ?_)
                obtain ⟨hv261, f261⟩ := q_261
                have c261 : g_261 200 = g_60 200 := f261.1 200 (by decide)
                have w261 : g_261 192 18 = (k : Int) + 1 := (f261.2 18 (by decide) (by decide)).trans v18
                refine o_aload_n dX12_readCommand_264 rfl ?_
                refine o_gf dX12_readCommand_265 fl_X12_39 rfl (by decide) rfl ?_
                refine o_iload_n dX12_readCommand_268 rfl ?_
                refine o_iconst dX12_readCommand_269 ?_
                refine o_iadd dX12_readCommand_270 ?_
                refine o_aload_n dX12_readCommand_271 rfl ?_
                refine o_iconst dX12_readCommand_272 ?_
                refine o_cVm _ (ct_X12_readNumber hl d g_261 t n (s_sk t n (p_W 5) false p).2 hn ht (s_sk t n (p_W 5) false p).1 hv261 1 (by decide)) dX12_readCommand_273 ml_X12_220 yw_X12_readNumber rfl (by decide) (by omega) (by decide) rfl rfl rfl (Nat.le_of_ble_eq_true rfl) (fun g_273 q_273 => ?_)
                obtain ⟨hv273, f273⟩ := q_273
                refine o_iaEn (j := (4 * k + 1)) dX12_readCommand_276 rfl (by decide) (by decide) (by first | rfl | omega) (by omega) (fun _ => rfl) (by decide) (fun g_276 e_276 => ?_)
                have hv276 := o_pv_c hv273 e_276
                have w276 : g_276 192 18 = (k : Int) + 1 := by rw [e_276, o_e_n (by decide)]; exact (f273.2 18 (by decide) (by decide)).trans w261
                have c276 : ∀ j, j ≠ 4 * k + 1 → g_276 200 j = g_261 200 j := fun j hj => by rw [e_276, o_e_k hj, f273.1 200 (by decide)]
                have x276 : g_276 200 (4 * k + 1) = (s_nm t n 1 (s_sk t n (p_W 5) false p).1 (s_sk t n (p_W 5) false p).2).2.2 := by rw [e_276, o_e_s]
                refine o_goto (tgt := 329) dX12_readCommand_277 (by decide) ?_
                refine o_ret0 dX12_readCommand_329 trivial ?_
                have h := s_cmd (t := t) (n := n) (p := p) (by rw [hs]; decide)
                rw [hs] at h
                refine o_mt0 ⟨by rw [← h.1, ← h.2.1]; exact hv276, o_pc_c (o_pc_k (o_pc_k f60 f261) f273) e_276, w276, fun j hj => by rw [c276 _ (by omega), c261]; exact vo j hj, fun hok => ?_⟩
                rw [h.2.2 hok]
                refine ⟨by rw [c276 _ (by omega), c261]; exact vK, fun i hi => ?_⟩
                have hi : i < 1 := hi
                rcases (by omega : i = 0) with rfl
                · rw [show 4 * k + 1 + 0 = 4 * k + 1 by omega]; exact x276
              · by_cases x6 : K = 119
                · subst x6
                  refine o_lookup (off := 218) (tgt := 280) dX12_readCommand_62 (by decide) (by decide) (by decide) ?_
                  have hs : p_sel t n p = 6 := by unfold p_sel; rw [hX, if_neg (by decide), if_neg (by decide), if_neg (by decide), if_neg (by decide), if_pos rfl]
                  have hcm : p_cmd t n p = (if p_cl t n (p_W 6) p = (p_W 6).length then (if p_tx t n (p + p_cl t n (p_W 6) p) ≠ 32 then (true, p + p_cl t n (p_W 6) p, 6, [1]) else ((p_nums t n [2] (p + p_cl t n (p_W 6) p)).1, (p_nums t n [2] (p + p_cl t n (p_W 6) p)).2.1, 6, (p_nums t n [2] (p + p_cl t n (p_W 6) p)).2.2)) else (false, p + p_cl t n (p_W 6) p, 0, [])) := by
                    unfold p_cmd p_we
                    rw [hs]
                    by_cases y : p_cl t n (p_W 6) p = (p_W 6).length
                    · rw [if_pos y, if_pos y]
                      by_cases z : p_tx t n (p + p_cl t n (p_W 6) p) ≠ 32
                      · rw [if_pos z, if_pos ⟨rfl, z⟩]
                      · rw [if_neg z, if_neg (fun q => z q.2)]; rfl
                    · rw [if_neg y, if_neg y]
                  have hle := p_cl_le t n (p_W 6) p
                  refine o_aload_n dX12_readCommand_280 rfl ?_
                  refine o_ldcS (num := 30) dX12_readCommand_281 (show (RX12, 231, "wait", 30) ∈ o_str by decide) ?_
                  refine o_cVm _ (ct_X12_skip hl (d + 2) g_60 t n p hn ht false hv60 30 (p_W 6) o_wtW6) dX12_readCommand_283 ml_X12_205 yw_X12_skip rfl (by decide) (by omega) (by decide) rfl rfl rfl (Nat.le_of_ble_eq_true rfl) (fun g_283 q_283 => ?_)
                  obtain ⟨hv283, f283⟩ := q_283
                  have c283 : g_283 200 = g_60 200 := f283.1 200 (by decide)
                  have w283 : g_283 192 18 = (k : Int) + 1 := (f283.2 18 (by decide) (by decide)).trans v18
                  have e283 : s_sk t n (p_W 6) false p = (decide (p_cl t n (p_W 6) p < (p_W 6).length), p + p_cl t n (p_W 6) p) := rfl
                  rw [e283] at hv283
                  by_cases hfull : p_cl t n (p_W 6) p = (p_W 6).length
                  · rw [decide_eq_false (by omega)] at hv283
                    have h4 : g_283 192 13 = 0 := hv283.2.2.2.1.trans o_bF
                    refine o_aload_n dX12_readCommand_286 rfl ?_
                    refine o_gf dX12_readCommand_287 fl_X12_39 rfl (by decide) rfl ?_
                    refine o_iload_n dX12_readCommand_290 rfl ?_
                    refine o_iconst dX12_readCommand_291 ?_
                    refine o_iadd dX12_readCommand_292 ?_
                    refine o_aload_n dX12_readCommand_293 rfl ?_
                    refine o_gf dX12_readCommand_294 fl_X12_192 rfl (by decide) rfl ?_
                    refine o_if_ne (tgt := 318) dX12_readCommand_297 (by decide) ⟨by omega, by omega⟩ (fun c => absurd h4 c) (fun _ => ?_)
                    refine o_aload_n dX12_readCommand_300 rfl ?_
                    refine o_iconst dX12_readCommand_301 ?_
                    refine o_cV _ (ct_X12_behind hl (d + 7) g_283 t n (p + p_cl t n (p_W 6) p) hn ht false hv283 0 (by decide)) dX12_readCommand_302 ml_X12_196 yw_X12_behind rfl (by decide) (by omega) (by decide) rfl rfl rfl (Nat.le_of_ble_eq_true rfl) ?_
                    refine o_bipush dX12_readCommand_305 (by decide) ?_
                    simp only [Nat.add_zero]
                    have hxx := p_tx_R ht (p + p_cl t n (p_W 6) p)
                    refine o_icmp_ne (tgt := 318) dX12_readCommand_307 (by decide) ⟨by omega, by omega⟩ ⟨by omega, by omega⟩ (fun c_307 => ?_) (fun c_307 => ?_)
                    · skip
                      refine o_iconst dX12_readCommand_318 ?_
                      refine o_iaEn (j := (4 * k + 1)) dX12_readCommand_319 rfl (by decide) (by decide) (by first | rfl | omega) (by omega) (fun _ => rfl) (by decide) (fun g_319 e_319 => ?_)
                      refine o_goto (tgt := 329) dX12_readCommand_320 (by decide) ?_
                      refine o_ret0 dX12_readCommand_329 trivial ?_
                      have hv319 := o_pv_c hv283 e_319
                      have c319 : ∀ j, j ≠ 4 * k + 1 → g_319 200 j = g_283 200 j := fun j hj => by rw [e_319, o_e_k hj]
                      have x319 : g_319 200 (4 * k + 1) = 1 := by rw [e_319, o_e_s]
                      have w319 : g_319 192 18 = (k : Int) + 1 := by rw [e_319, o_e_n (by decide)]; exact w283
                      rw [if_pos hfull, if_pos c_307] at hcm
                      refine o_mt0 ⟨by rw [hcm]; exact hv319, o_pc_c (o_pc_k f60 f283) e_319, w319, fun j hj => by rw [c319 _ (by omega), c283]; exact vo j hj, fun hok => ?_⟩
                      rw [hcm]
                      refine ⟨by rw [c319 _ (by omega), c283]; exact vK, fun i hi => ?_⟩
                      have hi : i < 1 := hi
                      rcases (by omega : i = 0) with rfl
                      exact x319
                    · skip
                      refine o_aload_n dX12_readCommand_310 rfl ?_
                      refine o_iconst dX12_readCommand_311 ?_
                      refine o_cVm _ (ct_X12_readNumber hl d g_283 t n (p + p_cl t n (p_W 6) p) hn ht false hv283 2 (by decide)) dX12_readCommand_312 ml_X12_220 yw_X12_readNumber rfl (by decide) (by omega) (by decide) rfl rfl rfl (Nat.le_of_ble_eq_true rfl) (fun g_312 q_312 => ?_)
                      obtain ⟨hv312, f312⟩ := q_312
                      refine o_goto (tgt := 319) dX12_readCommand_315 (by decide) ?_
                      refine o_iaEn (j := (4 * k + 1)) dX12_readCommand_319 rfl (by decide) (by decide) (by first | rfl | omega) (by omega) (fun _ => rfl) (by decide) (fun g_319 e_319 => ?_)
                      refine o_goto (tgt := 329) dX12_readCommand_320 (by decide) ?_
                      refine o_ret0 dX12_readCommand_329 trivial ?_
                      have hv319 := o_pv_c hv312 e_319
                      have c319 : ∀ j, j ≠ 4 * k + 1 → g_319 200 j = g_283 200 j := fun j hj => by rw [e_319, o_e_k hj, f312.1 200 (by decide)]
                      have x319 : g_319 200 (4 * k + 1) = (s_nm t n 2 false (p + p_cl t n (p_W 6) p)).2.2 := by rw [e_319, o_e_s]
                      have w319 : g_319 192 18 = (k : Int) + 1 := by rw [e_319, o_e_n (by decide)]; exact (f312.2 18 (by decide) (by decide)).trans w283
                      rw [if_pos hfull, if_neg (fun z => z (by omega))] at hcm
                      have hnm := s_nms_p t n [2] (p + p_cl t n (p_W 6) p)
                      have h1 : (s_nm t n 2 false (p + p_cl t n (p_W 6) p)).1 = (!(p_cmd t n p).1) := by rw [hcm]; exact hnm.1
                      have h2 : (s_nm t n 2 false (p + p_cl t n (p_W 6) p)).2.1 = (p_cmd t n p).2.1 := by rw [hcm]; exact hnm.2.1
                      refine o_mt0 ⟨by rw [← h1, ← h2]; exact hv319, o_pc_c (o_pc_k (o_pc_k f60 f283) f312) e_319, w319, fun j hj => by rw [c319 _ (by omega), c283]; exact vo j hj, fun hok => ?_⟩
                      rw [hcm] at hok ⊢
                      refine ⟨by rw [c319 _ (by omega), c283]; exact vK, fun i hi => ?_⟩
                      rw [show (6, (p_nums t n [2] (p + p_cl t n (p_W 6) p)).2.2) = (6, [(s_nm t n 2 false (p + p_cl t n (p_W 6) p)).2.2]) by rw [← hnm.2.2 hok]; rfl] at hi ⊢
                      have hi : i < 1 := hi
                      rcases (by omega : i = 0) with rfl
                      exact x319
                  · rw [decide_eq_true (by omega)] at hv283
                    have h4 : g_283 192 13 = 1 := hv283.2.2.2.1.trans o_bT
                    refine o_aload_n dX12_readCommand_286 rfl ?_
                    refine o_gf dX12_readCommand_287 fl_X12_39 rfl (by decide) rfl ?_
                    refine o_iload_n dX12_readCommand_290 rfl ?_
                    refine o_iconst dX12_readCommand_291 ?_
                    refine o_iadd dX12_readCommand_292 ?_
                    refine o_aload_n dX12_readCommand_293 rfl ?_
                    refine o_gf dX12_readCommand_294 fl_X12_192 rfl (by decide) rfl ?_
                    refine o_if_ne (tgt := 318) dX12_readCommand_297 (by decide) ⟨by omega, by omega⟩ (fun c_297 => ?_) (fun c_297 => ?_)
                    · skip
                      refine o_iconst dX12_readCommand_318 ?_
                      refine o_iaEn (j := (4 * k + 1)) dX12_readCommand_319 rfl (by decide) (by decide) (by first | rfl | omega) (by omega) (fun _ => rfl) (by decide) (fun g_319 e_319 => ?_)
                      refine o_goto (tgt := 329) dX12_readCommand_320 (by decide) ?_
                      refine o_ret0 dX12_readCommand_329 trivial ?_
                      have hv319 := o_pv_c hv283 e_319
                      have c319 : ∀ j, j ≠ 4 * k + 1 → g_319 200 j = g_283 200 j := fun j hj => by rw [e_319, o_e_k hj]
                      have x319 : g_319 200 (4 * k + 1) = 1 := by rw [e_319, o_e_s]
                      have w319 : g_319 192 18 = (k : Int) + 1 := by rw [e_319, o_e_n (by decide)]; exact w283
                      rw [if_neg hfull] at hcm
                      refine o_mt0 ⟨by rw [hcm]; exact hv319, o_pc_c (o_pc_k f60 f283) e_319, w319, fun j hj => by rw [c319 _ (by omega), c283]; exact vo j hj, fun hok => ?_⟩
                      rw [hcm] at hok
                      cases hok
                    · skip
                      exfalso
                      omega
                · skip
                  refine o_lookup (off := 261) (tgt := 323) dX12_readCommand_62 (by decide) (by rw [o_toInt hKR]; show (if (97 : Int) = K then (58 : Int) else if (100 : Int) = K then 196 else if (108 : Int) = K then 113 else if (111 : Int) = K then 91 else if (114 : Int) = K then 161 else if (119 : Int) = K then 218 else 261) = 261; rw [if_neg (by omega), if_neg (by omega), if_neg (by omega), if_neg (by omega), if_neg (by omega), if_neg (by omega)]) (by decide) ?_
                  have hs : p_sel t n p = 0 := by unfold p_sel; rw [hX, if_neg (by omega), if_neg (by omega), if_neg (by omega), if_neg (by omega), if_neg (by omega)]
                  refine o_aload_n dX12_readCommand_323 rfl ?_
                  refine o_ldcS (num := 24) dX12_readCommand_324 (show (RX12, 218, "ship", 24) ∈ o_str by decide) ?_
                  refine o_cVm _ (ct_X12_skip hl (d + 2) g_60 t n p hn ht false hv60 24 (p_W 0) o_wtW0) dX12_readCommand_326 ml_X12_205 yw_X12_skip rfl (by decide) (by omega) (by decide) rfl rfl rfl (Nat.le_of_ble_eq_true rfl) (fun g_326 q_326 => ?_)
                  obtain ⟨hv326, f326⟩ := q_326
                  have c326 : g_326 200 = g_60 200 := f326.1 200 (by decide)
                  have w326 : g_326 192 18 = (k : Int) + 1 := (f326.2 18 (by decide) (by decide)).trans v18
                  refine o_ret0 dX12_readCommand_329 trivial ?_
                  have h := s_cmd (t := t) (n := n) (p := p) (by rw [hs]; decide)
                  rw [hs] at h
                  refine o_mt0 ⟨by rw [← h.1, ← h.2.1]; exact hv326, o_pc_k f60 f326, w326, fun j hj => by rw [c326]; exact vo j hj, fun hok => ?_⟩
                  rw [h.2.2 hok]
                  refine ⟨by rw [c326]; exact vK.trans (hX.symm.trans (p_ok0 hs hok)), fun i hi => ?_⟩
                  exact absurd hi (Nat.not_lt_zero i)
  obtain ⟨h1, h2, h3, h4, h5⟩ := id hv
  rw [o_bF] at h4
  refine o_aload_n dX12_readCommand_0 rfl ?_
  refine o_gf dX12_readCommand_1 fl_X12_192 rfl (by decide) rfl ?_
  refine o_if_eq (tgt := 8) dX12_readCommand_4 (by decide) ⟨by omega, by omega⟩ (fun _ => ?_) (fun c => absurd h4 c)
  refine o_aload_n dX12_readCommand_8 rfl ?_
  refine o_iconst dX12_readCommand_9 ?_
  refine o_cV _ (ct_X12_behind hl (d + 7) g t n p hn ht false hv 0 (by decide)) dX12_readCommand_10 ml_X12_196 yw_X12_behind rfl (by decide) (by omega) (by decide) rfl rfl rfl (Nat.le_of_ble_eq_true rfl) ?_
  refine o_istore_n dX12_readCommand_13 (by decide) ?_
  simp only [Nat.add_zero]
  rw [hX]
  refine o_iload_n dX12_readCommand_14 rfl ?_
  refine o_bipush dX12_readCommand_15 (by decide) ?_
  refine o_icmp_ne (tgt := 35) dX12_readCommand_17 (by decide) ⟨by omega, by omega⟩ ⟨by omega, by omega⟩ (fun c_17 => ?_) (fun c_17 => ?_)
  · skip
    refine o_iload_n dX12_readCommand_35 rfl ?_
    exact o_loc _ rfl (keyK X ⟨by omega, by omega⟩ (Or.inr ⟨rfl, fun z => c_17 z.1⟩))
  · skip
    refine o_aload_n dX12_readCommand_20 rfl ?_
    refine o_iconst dX12_readCommand_21 ?_
    refine o_cV _ (ct_X12_behind hl (d + 7) g t n p hn ht false hv 1 (by decide)) dX12_readCommand_22 ml_X12_196 yw_X12_behind rfl (by decide) (by omega) (by decide) rfl rfl rfl (Nat.le_of_ble_eq_true rfl) ?_
    refine o_bipush dX12_readCommand_25 (by decide) ?_
    refine o_icmp_ne (tgt := 35) dX12_readCommand_27 (by decide) ⟨by omega, by omega⟩ ⟨by omega, by omega⟩ (fun c_27 => ?_) (fun c_27 => ?_)
    · skip
      refine o_iload_n dX12_readCommand_35 rfl ?_
      exact o_loc _ rfl (keyK X ⟨by omega, by omega⟩ (Or.inr ⟨rfl, fun z => c_27 z.2⟩))
    · skip
      refine o_bipush dX12_readCommand_30 (by decide) ?_
      refine o_goto (tgt := 36) dX12_readCommand_32 (by decide) ?_
      exact o_loc _ rfl (keyK 97 ⟨by decide, by decide⟩ (Or.inl ⟨rfl, by omega, by omega⟩))
