/-! the law's cases -/
abbrev mL_law : o_M := (RL, cL_law, 9, some .boolean, [], "law")
abbrev w_al : Nat → Prop := fun k => k < 1000000
abbrev w_ls (n : Nat) : List (Nat × Value) := [(0, .ref 5000000), (1, .ref 0), (2, .ref 192), (3, .ref 201), (4, .ref 202), (5, .int (o_I ((4 * n : Nat) : Int)))]
/-- the end of a call of the reference -/
def r_y (k : Int) (v : Value) (M' : Nat → Nat → Int) (P' : List (Nat → Nat → Int)) (S' : Option (Nat → Nat → Int)) (T' g : Nat → Nat → Int) : o_P := o_mt (some v) (fun g' => g' 192 7 = k ∧ o_md g' M' P' S' T' ∧ o_fr r_m9 g g')
theorem h_md_c {g g' M : Nat → Nat → Int} {P : List (Nat → Nat → Int)} {S : Option (Nat → Nat → Int)} {T : Nat → Nat → Int} (h : o_md g M P S T) (f : o_fr h_f9 g g') : o_md g' M P S T := by
  have e : ∀ a, 192 ≤ a → a ≤ 200 → g' a = g a := fun a a1 a2 => f a (fun q => by rcases q with q | q | q <;> omega)
  obtain ⟨h1, ⟨h2, h3, h4⟩, ⟨h5, h6⟩, h7, h8, h9, h10, h11, h12, h13⟩ := h
  refine ⟨by rw [e 193 (by decide) (by decide)]; exact h1, ⟨by rw [e 192 (by decide) (by decide)]; exact h2, h3, by rw [e 197 (by decide) (by decide)]; exact h4⟩, ⟨by rw [e 192 (by decide) (by decide)]; exact h5, by rw [e 196 (by decide) (by decide)]; exact h6⟩, ?_⟩
  unfold r_m4
  rw [e 192 (by decide) (by decide), e 199 (by decide) (by decide), e 198 (by decide) (by decide)]
  exact ⟨h7, h8, h9, h10, h11, h12, h13⟩
theorem h_xd_r {g g' M : Nat → Nat → Int} {P : List (Nat → Nat → Int)} {S : Option (Nat → Nat → Int)} {T : Nat → Nat → Int} (h : o_xd g M P S T) (f : o_fr r_m9 g g') : o_xd g' M P S T := h_xd_c h (fun a ha => f a (fun q => ha q.1))
theorem h_x9 {g g' : Nat → Nat → Int} (f : o_fr x_f9 g g') : o_fr h_f9 g g' := o_fr_m f (fun _ ha => Or.inl ha)
theorem h_eqL {g1 g2 : Nat → Nat → Int} {v v2 : Int} (f : o_fr r_m9 g1 g2) (h : g1 201 0 = (o_I v).toInt) (e : v2 = v) : Int64.ofInt (g2 201 (0 : Int).toNat) = (o_I v2).toInt64 := by
  rw [f 201 (fun q => absurd q.2 (by decide)), show (0 : Int).toNat = 0 from rfl, h, e, Int64.ofInt_int32ToInt]
theorem h_eqD {g1 g2 : Nat → Nat → Int} {x : UInt64} (f : o_fr r_m9 g1 g2) (h : g1 202 0 = (x.toNat : Int)) : UInt64.ofNat (g2 202 (0 : Int).toNat).toNat = x := by
  rw [f 202 (fun q => absurd q.2 (by decide)), show (0 : Int).toNat = 0 from rfl, h, Int.toNat_natCast, UInt64.ofNat_toNat]
theorem h_thrown {l : Launch} (hl : l.stackTraces = false) (d : Nat) (g : Nat → Nat → Int) (k : Int) (e : g 192 7 = k) : o_Ct l yX12_thrown wX12_thrown (d + 1) o_no [.ref 192] o_N (o_mem g) 0 0 (o_mt (some (.int (o_I k))) (fun g' => g' = g)) :=
  (ct_X12_thrown hl d g).wk (fun o n' h' q => by obtain ⟨q1, q2, q3⟩ := q; exact ⟨by rw [q1, e], q2, g, q3, rfl⟩)
section OZ2
variable {Z : o_Z} {l : Launch} {M : o_M} {d : Nat} {al : Nat → Prop} {post : o_P} {pc : Nat} {ls : List (Nat × Value)} {st : List Value} {n : Nat} {h : Nat → o_C} {mc ms : Nat}
/-- two longs, two doubles that are the same -/
theorem oz_lcmpS {x y : Int64} (e : x = y) (hd : decode M.2.1 pc = .ok (.lcmp, 1)) (k : o_Vz Z l M d al post (pc + 1) ls (.int 0 :: st) n h mc ms) : o_Vz Z l M d al post pc ls (.long y :: .long x :: st) n h mc ms := by
  subst e
  refine oz_lcmp hd ?_
  rw [show lg_cmp x x = 0 by unfold lg_cmp; rw [if_neg (fun q => absurd q (Int64.lt_irrefl (a := x))), if_pos rfl]]
  exact k
theorem oz_dcmpS {x y : UInt64} (e : x = y) (hE : FP.dcmp y y = some .eq) (hd : decode M.2.1 pc = .ok (.dcmp .l, 1)) (k : o_Vz Z l M d al post (pc + 1) ls (.int 0 :: st) n h mc ms) : o_Vz Z l M d al post pc ls (.double y :: .double x :: st) n h mc ms := by
  subst e
  refine oz_dcmp hd ?_
  rw [hE]
  exact k
end OZ2
set_option maxRecDepth 100000 in
set_option maxHeartbeats 4000000 in
theorem lc_0 {l : Launch} (hl : l.stackTraces = false) {Z : o_Z} {post : o_P} {mc ms n d1 d2 : Nat} (hL : Z.2.2.2.1 ≤ 2048) (hn : 4 * n + 4 ≤ Z.2.2.2.1) (hmc : 57 ≤ mc) (hms : 12540 ≤ ms) (h1 : d1 < 16) (h2 : d2 < 16) {g M M' T T' : Nat → Nat → Int} {P P' : List (Nat → Nat → Int)} {S S' : Option (Nat → Nat → Int)} (hmd : o_md g M P S T) (k : Int) (hk : 0 ≤ k ∧ k ≤ 4) (v v2 : Int) (hv : k = 0 → v2 = v)
    (C1 : o_Ct l yL_addShip wL_addShip d1 o_no [.ref 0, .ref 201] o_N (o_mem g) 1 6 (h_x k 201 ((o_I v).toInt) M' P' S' T' g)) (C2 : ∀ g1, o_md g1 M P S T → o_Ct l yX12_addShip wX12_addShip d2 o_no [.ref 192] o_N (o_mem g1) 0 0 (r_y k (.int (o_I v2)) M' P' S' T' g1))
    (K : ∀ g', o_xd g' M' P' S' T' → o_md g' M' P' S' T' → o_Vz Z l mL_law 16 w_al post 2455 (w_ls n) [] o_N (o_mem g') (mc - 57) (ms - 12540)) : o_Vz Z l mL_law 16 w_al post 268 (w_ls n) [] o_N (o_mem g) mc ms := by
  obtain ⟨hk1, hk2⟩ := hk
  refine oz_loc [(0, .ref 5000000), (1, .ref 0), (2, .ref 192), (3, .ref 201), (4, .ref 202), (5, .int (o_I ((4 * n : Nat) : Int)))] rfl ?_
  refine oz_aload_n dL_law_268 rfl ?_
  refine oz_aload_n dL_law_269 rfl ?_
  refine oz_callSW [.ref 0, .ref 201] (rest := []) C1 (fun E n9 h9 q => by obtain ⟨q1, -⟩ := q; cases q1) dL_law_270 ml_L_143 ys_L_addShip rfl (by decide) h1 (by omega) (by omega) rfl (Nat.le_of_ble_eq_true rfl) (fun _ z => z.elim) (fun _ z => z.elim) (Or.inl fun _ z => z) (fun v9 n9 h9 q9 => ?_)
  obtain ⟨q1, rfl, g1, rfl, hx1, f1, hv1⟩ := q9
  cases q1
  refine oz_istore dL_law_273 (by decide) ?_
  refine oz_aload_n dL_law_275 rfl ?_
  refine oz_cVm [] (C2 g1 (h_md_c hmd f1)) dL_law_276 ml_L_148 yw_X12_addShip rfl (by decide) h2 (by decide) rfl rfl rfl (Nat.le_of_ble_eq_true rfl) (fun g2 q2 => ?_)
  obtain ⟨e7, hmd2, f2⟩ := q2
  refine oz_istore dL_law_279 (by decide) ?_
  refine oz_aload_n dL_law_281 rfl ?_
  refine oz_cVm [] (h_thrown hl 0 g2 k e7) dL_law_282 ml_L_149 yw_X12_thrown rfl (by decide) (by decide) (by decide) rfl rfl rfl (Nat.le_of_ble_eq_true rfl) (fun g3 q3 => ?_)
  rw [q3]
  refine oz_iload dL_law_285 rfl ?_
  refine oz_icmpS (tgt := 292) dL_law_287 (by decide) ?_
  refine oz_iload dL_law_292 rfl ?_
  refine oz_ifx_ne (tgt := 309) dL_law_294 (by decide) (fun c9 => ?_) (fun c9 => ?_)
  · refine oz_goto (tgt := 2455) dL_law_309 (by decide) ?_
    exact oz_loc [(0, .ref 5000000), (1, .ref 0), (2, .ref 192), (3, .ref 201), (4, .ref 202), (5, .int (o_I ((4 * n : Nat) : Int)))] rfl (oz_mono (by omega) (by omega) (K g2 (h_xd_r hx1 f2) hmd2))
  have hk0 : k = 0 := (o_eq ⟨by omega, by omega⟩ o_R0).mp c9
  refine oz_aload_n dL_law_297 rfl ?_
  refine oz_iconst dL_law_298 ?_
  refine oz_lald (f := fun j => Int64.ofInt (g2 201 j)) (len := 1) dL_law_299 (by decide) rfl (by decide) (by decide) (by decide) ?_
  refine oz_iload dL_law_300 rfl ?_
  refine oz_i2l dL_law_302 ?_
  refine oz_lcmpS (h_eqL f2 (hv1 hk0) (hv hk0)) dL_law_303 ?_
  refine oz_ifx_eq (tgt := 309) dL_law_304 (by decide) (fun _ => ?_) (fun q => absurd rfl q)
  refine oz_goto (tgt := 2455) dL_law_309 (by decide) ?_
  exact oz_loc [(0, .ref 5000000), (1, .ref 0), (2, .ref 192), (3, .ref 201), (4, .ref 202), (5, .int (o_I ((4 * n : Nat) : Int)))] rfl (oz_mono (by omega) (by omega) (K g2 (h_xd_r hx1 f2) hmd2))
set_option maxRecDepth 100000 in
set_option maxHeartbeats 4000000 in
theorem lc_7 {l : Launch} {Z : o_Z} {post : o_P} {mc ms n d1 d2 mc1 ms1 : Nat} {al1 : Nat → Prop} (hmc : 57 ≤ mc) (hms : 12540 ≤ ms) (h1 : d1 < 16) (h2 : d2 < 16) (hm9 : mc1 ≤ 57) (hs9 : ms1 ≤ 12540) (hal : ∀ k, al1 k → k < 1000000) (hfr : (∀ k, ¬ al1 k) ∨ ((∀ q ∈ ([(0, .ref 5000000), (1, .ref 0), (2, .ref 192), (3, .ref 201), (4, .ref 202), (5, .int (o_I ((4 * n : Nat) : Int)))] : List (Nat × Value)), ∀ k, q.2 = .ref k → ¬ al1 k) ∧ ∀ v ∈ ([] : List Value), ∀ k, v = .ref k → ¬ al1 k)) {g M M' T T' : Nat → Nat → Int} {P P' : List (Nat → Nat → Int)} {S S' : Option (Nat → Nat → Int)} (hmd : o_md g M P S T) (v : Int)
    (C1 : o_Ct l yX11_hour wX11_hour d1 al1 [.ref 0] o_N (o_mem g) mc1 ms1 (x_x [] 0 (.int (o_I v)) M' P' S' T' g)) (C2 : ∀ g1, o_md g1 M P S T → o_Ct l yX12_hour wX12_hour d2 o_no [.ref 192] o_N (o_mem g1) 0 0 (r_y 0 (.int (o_I v)) M' P' S' T' g1))
    (K : ∀ g', o_xd g' M' P' S' T' → o_md g' M' P' S' T' → o_Vz Z l mL_law 16 w_al post 2455 (w_ls n) [] o_N (o_mem g') (mc - 57) (ms - 12540)) : o_Vz Z l mL_law 16 w_al post 684 (w_ls n) [] o_N (o_mem g) mc ms := by
  refine oz_loc [(0, .ref 5000000), (1, .ref 0), (2, .ref 192), (3, .ref 201), (4, .ref 202), (5, .int (o_I ((4 * n : Nat) : Int)))] rfl ?_
  refine oz_aload_n dL_law_684 rfl ?_
  refine oz_callV [] (rest := []) C1 dL_law_685 ml_L_173 yw_X11_hour rfl (by decide) h1 (Nat.le_trans hm9 hmc) (Nat.le_trans hs9 hms) (by decide) rfl rfl rfl (Nat.le_of_ble_eq_true rfl) hal (fun k q => hal k q) hfr (fun v9 n9 h9 q9 => ?_) (fun E n9 h9 q9 => by obtain ⟨-, -, q⟩ := q9; rcases q with ⟨-, q⟩ | ⟨E, q, -⟩; cases q; exact absurd rfl q)
  obtain ⟨rfl, ⟨g1, rfl, hx1, f1⟩, q⟩ := q9
  obtain ⟨-, q⟩ := q.resolve_right (fun z => by obtain ⟨E, z, -⟩ := z; exact absurd rfl z)
  cases q
  refine oz_aload_n dL_law_688 rfl ?_
  refine oz_cVm [] (C2 g1 (h_md_c hmd (h_x9 f1))) dL_law_689 ml_L_176 yw_X12_hour rfl (by decide) h2 (by decide) rfl rfl rfl (Nat.le_of_ble_eq_true rfl) (fun g2 q2 => ?_)
  obtain ⟨-, hmd2, f2⟩ := q2
  refine oz_icmpS (tgt := 2455) dL_law_692 (by decide) ?_
  exact oz_loc [(0, .ref 5000000), (1, .ref 0), (2, .ref 192), (3, .ref 201), (4, .ref 202), (5, .int (o_I ((4 * n : Nat) : Int)))] rfl (oz_mono (by omega) (by omega) (K g2 (h_xd_r hx1 f2) hmd2))
set_option maxRecDepth 100000 in
set_option maxHeartbeats 4000000 in
theorem lc_16 {l : Launch} (hl : l.stackTraces = false) {Z : o_Z} {post : o_P} {mc ms n d1 d2 : Nat} (hL : Z.2.2.2.1 ≤ 2048) (hn : 4 * n + 4 ≤ Z.2.2.2.1) (hmc : 57 ≤ mc) (hms : 12540 ≤ ms) (h1 : d1 < 16) (h2 : d2 < 16) {g M M' T T' : Nat → Nat → Int} {P P' : List (Nat → Nat → Int)} {S S' : Option (Nat → Nat → Int)} (hmd : o_md g M P S T) (k : Int) (hk : 0 ≤ k ∧ k ≤ 4) (v v2 : Int) (hv : k = 0 → v2 = v) (hb : k = 0 → v2 = 0 ∨ v2 = 1)
    (C1 : o_Ct l yL_isLeased wL_isLeased d1 o_no [.ref 0, .int (o_I (h_s Z (4 * n + 1))), .ref 201] o_N (o_mem g) 1 6 (h_x k 201 ((o_I v).toInt) M' P' S' T' g)) (C2 : ∀ g1, o_md g1 M P S T → o_Ct l yX12_isLeased wX12_isLeased d2 o_no [.ref 192, .int (o_I (h_s Z (4 * n + 1)))] o_N (o_mem g1) 0 0 (r_y k (.int (o_I v2)) M' P' S' T' g1))
    (K : ∀ g', o_xd g' M' P' S' T' → o_md g' M' P' S' T' → o_Vz Z l mL_law 16 w_al post 2455 (w_ls n) [] o_N (o_mem g') (mc - 57) (ms - 12540)) : o_Vz Z l mL_law 16 w_al post 1059 (w_ls n) [] o_N (o_mem g) mc ms := by
  obtain ⟨hk1, hk2⟩ := hk
  refine oz_loc [(0, .ref 5000000), (1, .ref 0), (2, .ref 192), (3, .ref 201), (4, .ref 202), (5, .int (o_I ((4 * n : Nat) : Int)))] rfl ?_
  refine oz_aload_n dL_law_1059 rfl ?_
  refine oz_aload_n dL_law_1060 rfl ?_
  refine oz_iload dL_law_1061 rfl ?_
  refine oz_iconst dL_law_1063 ?_
  refine oz_iadd dL_law_1064 ?_
  refine oz_sld (j := 4 * n + 1) (by omega) (by omega) hL dL_law_1065 ?_
  refine oz_aload_n dL_law_1066 rfl ?_
  refine oz_callSW [.ref 0, .int (o_I (h_s Z (4 * n + 1))), .ref 201] (rest := []) C1 (fun E n9 h9 q => by obtain ⟨q1, -⟩ := q; cases q1) dL_law_1067 ml_L_203 ys_L_isLeased rfl (by decide) h1 (by omega) (by omega) rfl (Nat.le_of_ble_eq_true rfl) (fun _ z => z.elim) (fun _ z => z.elim) (Or.inl fun _ z => z) (fun v9 n9 h9 q9 => ?_)
  obtain ⟨q1, rfl, g1, rfl, hx1, f1, hv1⟩ := q9
  cases q1
  refine oz_istore dL_law_1070 (by decide) ?_
  refine oz_aload_n dL_law_1072 rfl ?_
  refine oz_aload_n dL_law_1073 rfl ?_
  refine oz_iload dL_law_1074 rfl ?_
  refine oz_iconst dL_law_1076 ?_
  refine oz_iadd dL_law_1077 ?_
  refine oz_sld (j := 4 * n + 1) (by omega) (by omega) hL dL_law_1078 ?_
  refine oz_cVm [.int (o_I (h_s Z (4 * n + 1)))] (C2 g1 (h_md_c hmd f1)) dL_law_1079 ml_L_205 yw_X12_isLeased rfl (by decide) h2 (by decide) rfl rfl rfl (Nat.le_of_ble_eq_true rfl) (fun g2 q2 => ?_)
  obtain ⟨e7, hmd2, f2⟩ := q2
  refine oz_istore dL_law_1082 (by decide) ?_
  refine oz_aload_n dL_law_1084 rfl ?_
  refine oz_cVm [] (h_thrown hl 0 g2 k e7) dL_law_1085 ml_L_149 yw_X12_thrown rfl (by decide) (by decide) (by decide) rfl rfl rfl (Nat.le_of_ble_eq_true rfl) (fun g3 q3 => ?_)
  rw [q3]
  refine oz_iload dL_law_1088 rfl ?_
  refine oz_icmpS (tgt := 1095) dL_law_1090 (by decide) ?_
  refine oz_iload dL_law_1095 rfl ?_
  refine oz_ifx_ne (tgt := 1119) dL_law_1097 (by decide) (fun c9 => ?_) (fun c9 => ?_)
  · refine oz_goto (tgt := 2455) dL_law_1119 (by decide) ?_
    exact oz_loc [(0, .ref 5000000), (1, .ref 0), (2, .ref 192), (3, .ref 201), (4, .ref 202), (5, .int (o_I ((4 * n : Nat) : Int)))] rfl (oz_mono (by omega) (by omega) (K g2 (h_xd_r hx1 f2) hmd2))
  have hk0 : k = 0 := (o_eq ⟨by omega, by omega⟩ o_R0).mp c9
  refine oz_aload_n dL_law_1100 rfl ?_
  refine oz_iconst dL_law_1101 ?_
  refine oz_lald (f := fun j => Int64.ofInt (g2 201 j)) (len := 1) dL_law_1102 (by decide) rfl (by decide) (by decide) (by decide) ?_
  refine oz_iload dL_law_1103 rfl ?_
  refine oz_ifx_eq (tgt := 1112) dL_law_1105 (by decide) (fun c8 => ?_) (fun c8 => ?_)
  · have e0 : v2 = 0 := (hb hk0).resolve_right (fun q => by rw [q] at c8; exact absurd c8 (by decide))
    refine oz_lconst dL_law_1112 ?_
    refine oz_lcmpS ((h_eqL f2 (hv1 hk0) (hv hk0)).trans (by rw [e0]; decide)) dL_law_1113 ?_
    refine oz_ifx_eq (tgt := 1119) dL_law_1114 (by decide) (fun _ => ?_) (fun q => absurd rfl q)
    refine oz_goto (tgt := 2455) dL_law_1119 (by decide) ?_
    exact oz_loc [(0, .ref 5000000), (1, .ref 0), (2, .ref 192), (3, .ref 201), (4, .ref 202), (5, .int (o_I ((4 * n : Nat) : Int)))] rfl (oz_mono (by omega) (by omega) (K g2 (h_xd_r hx1 f2) hmd2))
  · have e0 : v2 = 1 := (hb hk0).resolve_left (fun q => c8 (by rw [q]; rfl))
    refine oz_lconst dL_law_1108 ?_
    refine oz_goto (tgt := 1113) dL_law_1109 (by decide) ?_
    refine oz_lcmpS ((h_eqL f2 (hv1 hk0) (hv hk0)).trans (by rw [e0]; decide)) dL_law_1113 ?_
    refine oz_ifx_eq (tgt := 1119) dL_law_1114 (by decide) (fun _ => ?_) (fun q => absurd rfl q)
    refine oz_goto (tgt := 2455) dL_law_1119 (by decide) ?_
    exact oz_loc [(0, .ref 5000000), (1, .ref 0), (2, .ref 192), (3, .ref 201), (4, .ref 202), (5, .int (o_I ((4 * n : Nat) : Int)))] rfl (oz_mono (by omega) (by omega) (K g2 (h_xd_r hx1 f2) hmd2))
set_option maxRecDepth 100000 in
set_option maxHeartbeats 4000000 in
theorem lc_38 {l : Launch} (hl : l.stackTraces = false) {Z : o_Z} {post : o_P} {mc ms n d1 d2 : Nat} (hL : Z.2.2.2.1 ≤ 2048) (hn : 4 * n + 4 ≤ Z.2.2.2.1) (hmc : 57 ≤ mc) (hms : 12540 ≤ ms) (h1 : d1 < 16) (h2 : d2 < 16) {g M M' T T' : Nat → Nat → Int} {P P' : List (Nat → Nat → Int)} {S S' : Option (Nat → Nat → Int)} (hmd : o_md g M P S T) (k : Int) (hk : 0 ≤ k ∧ k ≤ 4) (x x2 : UInt64) (hv : k = 0 → x2 = x) (hE : k = 0 → FP.dcmp x x = some .eq)
    (C1 : o_Ct l yL_meanCoins wL_meanCoins d1 o_no [.ref 0, .ref 202] o_N (o_mem g) 1 6 (h_x k 202 ((x.toNat : Int)) M' P' S' T' g)) (C2 : ∀ g1, o_md g1 M P S T → o_Ct l yX12_meanCoins wX12_meanCoins d2 o_no [.ref 192] o_N (o_mem g1) 0 0 (r_y k (.double x2) M' P' S' T' g1))
    (K : ∀ g', o_xd g' M' P' S' T' → o_md g' M' P' S' T' → o_Vz Z l mL_law 16 w_al post 2455 (w_ls n) [] o_N (o_mem g') (mc - 57) (ms - 12540)) : o_Vz Z l mL_law 16 w_al post 1894 (w_ls n) [] o_N (o_mem g) mc ms := by
  obtain ⟨hk1, hk2⟩ := hk
  refine oz_loc [(0, .ref 5000000), (1, .ref 0), (2, .ref 192), (3, .ref 201), (4, .ref 202), (5, .int (o_I ((4 * n : Nat) : Int)))] rfl ?_
  refine oz_aload_n dL_law_1894 rfl ?_
  refine oz_aload dL_law_1895 rfl ?_
  refine oz_callSW [.ref 0, .ref 202] (rest := []) C1 (fun E n9 h9 q => by obtain ⟨q1, -⟩ := q; cases q1) dL_law_1897 ml_L_278 ys_L_meanCoins rfl (by decide) h1 (by omega) (by omega) rfl (Nat.le_of_ble_eq_true rfl) (fun _ z => z.elim) (fun _ z => z.elim) (Or.inl fun _ z => z) (fun v9 n9 h9 q9 => ?_)
  obtain ⟨q1, rfl, g1, rfl, hx1, f1, hv1⟩ := q9
  cases q1
  refine oz_istore dL_law_1900 (by decide) ?_
  refine oz_aload_n dL_law_1902 rfl ?_
  refine oz_cVm [] (C2 g1 (h_md_c hmd f1)) dL_law_1903 ml_L_281 yw_X12_meanCoins rfl (by decide) h2 (by decide) rfl rfl rfl (Nat.le_of_ble_eq_true rfl) (fun g2 q2 => ?_)
  obtain ⟨e7, hmd2, f2⟩ := q2
  refine oz_dstore dL_law_1906 (by decide) ?_
  refine oz_aload_n dL_law_1908 rfl ?_
  refine oz_cVm [] (h_thrown hl 0 g2 k e7) dL_law_1909 ml_L_149 yw_X12_thrown rfl (by decide) (by decide) (by decide) rfl rfl rfl (Nat.le_of_ble_eq_true rfl) (fun g3 q3 => ?_)
  rw [q3]
  refine oz_iload dL_law_1912 rfl ?_
  refine oz_icmpS (tgt := 1919) dL_law_1914 (by decide) ?_
  refine oz_iload dL_law_1919 rfl ?_
  refine oz_ifx_ne (tgt := 1956) dL_law_1921 (by decide) (fun c9 => ?_) (fun c9 => ?_)
  · refine oz_goto (tgt := 2455) dL_law_1956 (by decide) ?_
    exact oz_loc [(0, .ref 5000000), (1, .ref 0), (2, .ref 192), (3, .ref 201), (4, .ref 202), (5, .int (o_I ((4 * n : Nat) : Int)))] rfl (oz_mono (by omega) (by omega) (K g2 (h_xd_r hx1 f2) hmd2))
  have hk0 : k = 0 := (o_eq ⟨by omega, by omega⟩ o_R0).mp c9
  refine oz_aload dL_law_1924 rfl ?_
  refine oz_iconst dL_law_1926 ?_
  refine oz_dald (f := fun j => UInt64.ofNat (g2 202 j).toNat) (len := 1) dL_law_1927 (by decide) rfl (by decide) (by decide) (by decide) ?_
  refine oz_dload dL_law_1928 rfl ?_
  refine oz_dcmpS ((h_eqD f2 (hv1 hk0)).trans (by rw [hv hk0])) (by rw [hv hk0]; exact hE hk0) dL_law_1930 ?_
  refine oz_ifx_eq (tgt := 1956) dL_law_1931 (by decide) (fun _ => ?_) (fun q => absurd rfl q)
  refine oz_goto (tgt := 2455) dL_law_1956 (by decide) ?_
  exact oz_loc [(0, .ref 5000000), (1, .ref 0), (2, .ref 192), (3, .ref 201), (4, .ref 202), (5, .int (o_I ((4 * n : Nat) : Int)))] rfl (oz_mono (by omega) (by omega) (K g2 (h_xd_r hx1 f2) hmd2))
set_option maxRecDepth 100000 in
set_option maxHeartbeats 4000000 in
theorem lc_39 {l : Launch} (hl : l.stackTraces = false) {Z : o_Z} {post : o_P} {mc ms n d1 d2 : Nat} (hL : Z.2.2.2.1 ≤ 2048) (hn : 4 * n + 4 ≤ Z.2.2.2.1) (hmc : 57 ≤ mc) (hms : 12540 ≤ ms) (h1 : d1 < 16) (h2 : d2 < 16) {g M M' T T' : Nat → Nat → Int} {P P' : List (Nat → Nat → Int)} {S S' : Option (Nat → Nat → Int)} (hmd : o_md g M P S T) (k : Int) (hk : 0 ≤ k ∧ k ≤ 4) (x x2 : UInt32) (hv : k = 0 → x2 = x) (hne : k = 0 → vf_n64 (FP.f2d x)) (hE : k = 0 → FP.dcmp (FP.f2d x) (FP.f2d x) = some .eq)
    (C1 : o_Ct l yL_leasedShare wL_leasedShare d1 o_no [.ref 0, .ref 202] o_N (o_mem g) 1 6 (h_x k 202 (((FP.f2d x).toNat : Int)) M' P' S' T' g)) (C2 : ∀ g1, o_md g1 M P S T → o_Ct l yX12_leasedShare wX12_leasedShare d2 o_no [.ref 192] o_N (o_mem g1) 0 0 (r_y k (.float x2) M' P' S' T' g1))
    (K : ∀ g', o_xd g' M' P' S' T' → o_md g' M' P' S' T' → o_Vz Z l mL_law 16 w_al post 2455 (w_ls n) [] o_N (o_mem g') (mc - 57) (ms - 12540)) : o_Vz Z l mL_law 16 w_al post 1959 (w_ls n) [] o_N (o_mem g) mc ms := by
  obtain ⟨hk1, hk2⟩ := hk
  refine oz_loc [(0, .ref 5000000), (1, .ref 0), (2, .ref 192), (3, .ref 201), (4, .ref 202), (5, .int (o_I ((4 * n : Nat) : Int)))] rfl ?_
  refine oz_aload_n dL_law_1959 rfl ?_
  refine oz_aload dL_law_1960 rfl ?_
  refine oz_callSW [.ref 0, .ref 202] (rest := []) C1 (fun E n9 h9 q => by obtain ⟨q1, -⟩ := q; cases q1) dL_law_1962 ml_L_282 ys_L_leasedShare rfl (by decide) h1 (by omega) (by omega) rfl (Nat.le_of_ble_eq_true rfl) (fun _ z => z.elim) (fun _ z => z.elim) (Or.inl fun _ z => z) (fun v9 n9 h9 q9 => ?_)
  obtain ⟨q1, rfl, g1, rfl, hx1, f1, hv1⟩ := q9
  cases q1
  refine oz_istore dL_law_1965 (by decide) ?_
  refine oz_aload_n dL_law_1967 rfl ?_
  refine oz_cVm [] (C2 g1 (h_md_c hmd f1)) dL_law_1968 ml_L_284 yw_X12_leasedShare rfl (by decide) h2 (by decide) rfl rfl rfl (Nat.le_of_ble_eq_true rfl) (fun g2 q2 => ?_)
  obtain ⟨e7, hmd2, f2⟩ := q2
  refine oz_fstore dL_law_1971 (by decide) ?_
  refine oz_aload_n dL_law_1973 rfl ?_
  refine oz_cVm [] (h_thrown hl 0 g2 k e7) dL_law_1974 ml_L_149 yw_X12_thrown rfl (by decide) (by decide) (by decide) rfl rfl rfl (Nat.le_of_ble_eq_true rfl) (fun g3 q3 => ?_)
  rw [q3]
  refine oz_iload dL_law_1977 rfl ?_
  refine oz_icmpS (tgt := 1984) dL_law_1979 (by decide) ?_
  refine oz_iload dL_law_1984 rfl ?_
  refine oz_ifx_ne (tgt := 2022) dL_law_1986 (by decide) (fun c9 => ?_) (fun c9 => ?_)
  · refine oz_goto (tgt := 2455) dL_law_2022 (by decide) ?_
    exact oz_loc [(0, .ref 5000000), (1, .ref 0), (2, .ref 192), (3, .ref 201), (4, .ref 202), (5, .int (o_I ((4 * n : Nat) : Int)))] rfl (oz_mono (by omega) (by omega) (K g2 (h_xd_r hx1 f2) hmd2))
  have hk0 : k = 0 := (o_eq ⟨by omega, by omega⟩ o_R0).mp c9
  refine oz_aload dL_law_1989 rfl ?_
  refine oz_iconst dL_law_1991 ?_
  refine oz_dald (f := fun j => UInt64.ofNat (g2 202 j).toNat) (len := 1) dL_law_1992 (by decide) rfl (by decide) (by decide) (by decide) ?_
  refine oz_fload dL_law_1993 rfl ?_
  refine oz_f2d dL_law_1995 (by rw [hv hk0]; exact hne hk0) ?_
  refine oz_dcmpS ((h_eqD f2 (hv1 hk0)).trans (by rw [hv hk0])) (by rw [hv hk0]; exact hE hk0) dL_law_1996 ?_
  refine oz_ifx_eq (tgt := 2022) dL_law_1997 (by decide) (fun _ => ?_) (fun q => absurd rfl q)
  refine oz_goto (tgt := 2455) dL_law_2022 (by decide) ?_
  exact oz_loc [(0, .ref 5000000), (1, .ref 0), (2, .ref 192), (3, .ref 201), (4, .ref 202), (5, .int (o_I ((4 * n : Nat) : Int)))] rfl (oz_mono (by omega) (by omega) (K g2 (h_xd_r hx1 f2) hmd2))
set_option maxRecDepth 100000 in
set_option maxHeartbeats 4000000 in
theorem lc_41 {l : Launch} (hl : l.stackTraces = false) {Z : o_Z} {post : o_P} {mc ms n d1 d2 : Nat} (hL : Z.2.2.2.1 ≤ 2048) (hn : 4 * n + 4 ≤ Z.2.2.2.1) (hmc : 57 ≤ mc) (hms : 12540 ≤ ms) (h1 : d1 < 16) (h2 : d2 < 16) {g M M' T T' : Nat → Nat → Int} {P P' : List (Nat → Nat → Int)} {S S' : Option (Nat → Nat → Int)} (hmd : o_md g M P S T) (k : Int) (hk : 0 ≤ k ∧ k ≤ 4) (v v2 : Int) (hv : k = 0 → v2 = v) (cc : Int) (hc : ((o_I (h_s Z (4 * n + 1))).toUInt32 % 65536).toInt32 = o_I cc)
    (C1 : o_Ct l yL_feed wL_feed d1 o_no [.ref 0, .int (o_I cc), .ref 201] o_N (o_mem g) 1 6 (h_x k 201 ((o_I v).toInt) M' P' S' T' g)) (C2 : ∀ g1, o_md g1 M P S T → o_Ct l yX12_feed wX12_feed d2 o_no [.ref 192, .int (o_I cc)] o_N (o_mem g1) 0 0 (r_y k (.int (o_I v2)) M' P' S' T' g1))
    (K : ∀ g', o_xd g' M' P' S' T' → o_md g' M' P' S' T' → o_Vz Z l mL_law 16 w_al post 2455 (w_ls n) [] o_N (o_mem g') (mc - 57) (ms - 12540)) : o_Vz Z l mL_law 16 w_al post 2038 (w_ls n) [] o_N (o_mem g) mc ms := by
  obtain ⟨hk1, hk2⟩ := hk
  refine oz_loc [(0, .ref 5000000), (1, .ref 0), (2, .ref 192), (3, .ref 201), (4, .ref 202), (5, .int (o_I ((4 * n : Nat) : Int)))] rfl ?_
  refine oz_aload_n dL_law_2038 rfl ?_
  refine oz_aload_n dL_law_2039 rfl ?_
  refine oz_iload dL_law_2040 rfl ?_
  refine oz_iconst dL_law_2042 ?_
  refine oz_iadd dL_law_2043 ?_
  refine oz_sld (j := 4 * n + 1) (by omega) (by omega) hL dL_law_2044 ?_
  refine oz_i2c dL_law_2045 ?_
  rw [hc]
  refine oz_aload_n dL_law_2046 rfl ?_
  refine oz_callSW [.ref 0, .int (o_I cc), .ref 201] (rest := []) C1 (fun E n9 h9 q => by obtain ⟨q1, -⟩ := q; cases q1) dL_law_2047 ml_L_290 ys_L_feed rfl (by decide) h1 (by omega) (by omega) rfl (Nat.le_of_ble_eq_true rfl) (fun _ z => z.elim) (fun _ z => z.elim) (Or.inl fun _ z => z) (fun v9 n9 h9 q9 => ?_)
  obtain ⟨q1, rfl, g1, rfl, hx1, f1, hv1⟩ := q9
  cases q1
  refine oz_istore dL_law_2050 (by decide) ?_
  refine oz_aload_n dL_law_2052 rfl ?_
  refine oz_aload_n dL_law_2053 rfl ?_
  refine oz_iload dL_law_2054 rfl ?_
  refine oz_iconst dL_law_2056 ?_
  refine oz_iadd dL_law_2057 ?_
  refine oz_sld (j := 4 * n + 1) (by omega) (by omega) hL dL_law_2058 ?_
  refine oz_i2c dL_law_2059 ?_
  rw [hc]
  refine oz_cVm [.int (o_I cc)] (C2 g1 (h_md_c hmd f1)) dL_law_2060 ml_L_293 yw_X12_feed rfl (by decide) h2 (by decide) rfl rfl rfl (Nat.le_of_ble_eq_true rfl) (fun g2 q2 => ?_)
  obtain ⟨e7, hmd2, f2⟩ := q2
  refine oz_istore dL_law_2063 (by decide) ?_
  refine oz_aload_n dL_law_2065 rfl ?_
  refine oz_cVm [] (h_thrown hl 0 g2 k e7) dL_law_2066 ml_L_149 yw_X12_thrown rfl (by decide) (by decide) (by decide) rfl rfl rfl (Nat.le_of_ble_eq_true rfl) (fun g3 q3 => ?_)
  rw [q3]
  refine oz_iload dL_law_2069 rfl ?_
  refine oz_icmpS (tgt := 2076) dL_law_2071 (by decide) ?_
  refine oz_iload dL_law_2076 rfl ?_
  refine oz_ifx_ne (tgt := 2093) dL_law_2078 (by decide) (fun c9 => ?_) (fun c9 => ?_)
  · refine oz_goto (tgt := 2455) dL_law_2093 (by decide) ?_
    exact oz_loc [(0, .ref 5000000), (1, .ref 0), (2, .ref 192), (3, .ref 201), (4, .ref 202), (5, .int (o_I ((4 * n : Nat) : Int)))] rfl (oz_mono (by omega) (by omega) (K g2 (h_xd_r hx1 f2) hmd2))
  have hk0 : k = 0 := (o_eq ⟨by omega, by omega⟩ o_R0).mp c9
  refine oz_aload_n dL_law_2081 rfl ?_
  refine oz_iconst dL_law_2082 ?_
  refine oz_lald (f := fun j => Int64.ofInt (g2 201 j)) (len := 1) dL_law_2083 (by decide) rfl (by decide) (by decide) (by decide) ?_
  refine oz_iload dL_law_2084 rfl ?_
  refine oz_i2l dL_law_2086 ?_
  refine oz_lcmpS (h_eqL f2 (hv1 hk0) (hv hk0)) dL_law_2087 ?_
  refine oz_ifx_eq (tgt := 2093) dL_law_2088 (by decide) (fun _ => ?_) (fun q => absurd rfl q)
  refine oz_goto (tgt := 2455) dL_law_2093 (by decide) ?_
  exact oz_loc [(0, .ref 5000000), (1, .ref 0), (2, .ref 192), (3, .ref 201), (4, .ref 202), (5, .int (o_I ((4 * n : Nat) : Int)))] rfl (oz_mono (by omega) (by omega) (K g2 (h_xd_r hx1 f2) hmd2))
set_option maxRecDepth 100000 in
set_option maxHeartbeats 4000000 in
theorem lc_46 {l : Launch} {Z : o_Z} {post : o_P} {mc ms n d1 d2 mc1 ms1 : Nat} {al1 : Nat → Prop} (hmc : 57 ≤ mc) (hms : 12540 ≤ ms) (h1 : d1 < 16) (h2 : d2 < 16) (hm9 : mc1 ≤ 57) (hs9 : ms1 ≤ 12540) (hal : ∀ k, al1 k → k < 1000000) (hfr : (∀ k, ¬ al1 k) ∨ ((∀ q ∈ ([(0, .ref 5000000), (1, .ref 0), (2, .ref 192), (3, .ref 201), (4, .ref 202), (5, .int (o_I ((4 * n : Nat) : Int)))] : List (Nat × Value)), ∀ k, q.2 = .ref k → ¬ al1 k) ∧ ∀ v ∈ ([] : List Value), ∀ k, v = .ref k → ¬ al1 k)) {g M M' T T' : Nat → Nat → Int} {P P' : List (Nat → Nat → Int)} {S S' : Option (Nat → Nat → Int)} (hmd : o_md g M P S T) (v : Int)
    (C1 : o_Ct l yX11_writeLamps wX11_writeLamps d1 al1 [.ref 0] o_N (o_mem g) mc1 ms1 (x_x [] 0 (.int (o_I v)) M' P' S' T' g)) (C2 : ∀ g1, o_md g1 M P S T → o_Ct l yX12_writeLamps wX12_writeLamps d2 o_no [.ref 192] o_N (o_mem g1) 0 0 (r_y 0 (.int (o_I v)) M' P' S' T' g1))
    (K : ∀ g', o_xd g' M' P' S' T' → o_md g' M' P' S' T' → o_Vz Z l mL_law 16 w_al post 2455 (w_ls n) [] o_N (o_mem g') (mc - 57) (ms - 12540)) : o_Vz Z l mL_law 16 w_al post 2272 (w_ls n) [] o_N (o_mem g) mc ms := by
  refine oz_loc [(0, .ref 5000000), (1, .ref 0), (2, .ref 192), (3, .ref 201), (4, .ref 202), (5, .int (o_I ((4 * n : Nat) : Int)))] rfl ?_
  refine oz_aload_n dL_law_2272 rfl ?_
  refine oz_callV [] (rest := []) C1 dL_law_2273 ml_L_306 yw_X11_writeLamps rfl (by decide) h1 (Nat.le_trans hm9 hmc) (Nat.le_trans hs9 hms) (by decide) rfl rfl rfl (Nat.le_of_ble_eq_true rfl) hal (fun k q => hal k q) hfr (fun v9 n9 h9 q9 => ?_) (fun E n9 h9 q9 => by obtain ⟨-, -, q⟩ := q9; rcases q with ⟨-, q⟩ | ⟨E, q, -⟩; cases q; exact absurd rfl q)
  obtain ⟨rfl, ⟨g1, rfl, hx1, f1⟩, q⟩ := q9
  obtain ⟨-, q⟩ := q.resolve_right (fun z => by obtain ⟨E, z, -⟩ := z; exact absurd rfl z)
  cases q
  refine oz_aload_n dL_law_2276 rfl ?_
  refine oz_cVm [] (C2 g1 (h_md_c hmd (h_x9 f1))) dL_law_2277 ml_L_309 yw_X12_writeLamps rfl (by decide) h2 (by decide) rfl rfl rfl (Nat.le_of_ble_eq_true rfl) (fun g2 q2 => ?_)
  obtain ⟨-, hmd2, f2⟩ := q2
  refine oz_icmpS (tgt := 2455) dL_law_2280 (by decide) ?_
  exact oz_loc [(0, .ref 5000000), (1, .ref 0), (2, .ref 192), (3, .ref 201), (4, .ref 202), (5, .int (o_I ((4 * n : Nat) : Int)))] rfl (oz_mono (by omega) (by omega) (K g2 (h_xd_r hx1 f2) hmd2))
