/-! the law's questions -/
section YQ
variable {l : Launch} {Mt : o_M} {d : Nat} {al : Nat → Prop} {post : o_P} {pc : Nat} {ls : List (Nat × Value)} {st : List Value} {mc ms : Nat}
theorem y_q {y : MethodName} {yb : ByteArray} {yL dy mcy msy index : Nat} {yr : Option FieldType} {yh : List (Nat × Nat × Nat × Nat)} {g M P S T} {v : Value} (As : List Value) {rest : List Value} (hC : o_Ct l y (.codeWith y yb yL yr yh) dy o_no As o_N (o_mem g) mcy msy (y_x v M P S T)) (hd : decode Mt.2.1 pc = .ok (.invokestatic index, 3)) (hw : Cond.methodLink Mt.1 index y ∈ o_gW) (hyw : o_ys y (.codeWith y yb yL yr yh)) (hyd : o_yd y As.length = true) (hyL : yL ≤ 21)
    (hdy : dy < d) (hm : mcy ≤ mc) (hs : msy ≤ ms) (hst : st = As.reverse ++ rest) (hcat : (rest.map fun v => v.category).sum ≤ 8) (k : ∀ g', o_xd g' M P S T → o_V l Mt d al post (pc + 3) ls (v :: rest) o_N (o_mem g') (mc - mcy) (ms - msy)) : o_V l Mt d al post pc ls st o_N (o_mem g) mc ms :=
  o_callSW As hC (fun E n' h' q => by cases q.2.2) hd hw hyw hyd hyL hdy hm hs hst hcat (fun _ z => z.elim) (fun _ z => z.elim) (Or.inl fun _ z => z) (fun v9 n9 h9 q9 => by obtain ⟨rfl, ⟨g', rfl, hx⟩, q⟩ := q9; cases q; exact k g' hx)
theorem y_s {y : MethodName} {yb : ByteArray} {yL dy mcy msy index : Nat} {yr : Option FieldType} {g M P S T} {v : Value} (As : List Value) {rest : List Value} (hC : o_Ct l y (.code y yb yL yr) dy o_no As o_N (o_mem g) mcy msy (y_x v M P S T)) (hd : decode Mt.2.1 pc = .ok (.invokestatic index, 3)) (hw : Cond.methodLink Mt.1 index y ∈ o_gW) (hyw : o_ys y (.code y yb yL yr)) (hyd : o_yd y As.length = true) (hyL : yL ≤ 21)
    (hdy : dy < d) (hm : mcy ≤ mc) (hs : msy ≤ ms) (hst : st = As.reverse ++ rest) (hcat : (rest.map fun v => v.category).sum ≤ 8) (k : ∀ g', o_xd g' M P S T → o_V l Mt d al post (pc + 3) ls (v :: rest) o_N (o_mem g') (mc - mcy) (ms - msy)) : o_V l Mt d al post pc ls st o_N (o_mem g) mc ms :=
  o_callS As hC hd hw hyw hyd hyL hdy hm hs hst hcat (fun _ z => z.elim) (fun _ z => z.elim) (Or.inl fun _ z => z) (fun v9 n9 h9 q9 => by obtain ⟨rfl, ⟨g', rfl, hx⟩, q⟩ := q9; cases q; exact k g' hx) (fun E n9 h9 q9 => by cases q9.2.2)
theorem y_v {y : MethodName} {yb : ByteArray} {yL dy mcy msy index b ci N : Nat} {yr : Option FieldType} {T9 : u_T} {fs : List Value} {g M P S T} {v : Value} (As : List Value) {rest : List Value} (hC : o_Ct l y (.code y yb yL yr) dy o_no (.ref b :: As) o_N (o_mem g) mcy msy (y_x v M P S T)) (hd : decode Mt.2.1 pc = .ok (.invokevirtual index, 3)) (hw : Cond.methodLink Mt.1 index y ∈ o_gW) (hyw : o_yw y (.code y yb yL yr)) (hyd : o_yd y As.length = true) (hyL : yL ≤ 21)
    (hdy : dy < d) (hm : mcy ≤ mc) (hs : msy ≤ ms) (hb : b < o_N) (hh : o_mem g b = .inr (ci, fs)) (hc : o_cl[ci]? = some (y.cls, T9, N)) (hst : st = As.reverse ++ .ref b :: rest) (hcat : (rest.map fun v => v.category).sum ≤ 8) (k : ∀ g', o_xd g' M P S T → o_V l Mt d al post (pc + 3) ls (v :: rest) o_N (o_mem g') (mc - mcy) (ms - msy)) : o_V l Mt d al post pc ls st o_N (o_mem g) mc ms :=
  o_callV As hC hd hw hyw hyd hyL hdy hm hs hb hh hc hst hcat (fun _ z => z.elim) (fun _ z => z.elim) (Or.inl fun _ z => z) (fun v9 n9 h9 q9 => by obtain ⟨rfl, ⟨g', rfl, hx⟩, q⟩ := q9; cases q; exact k g' hx) (fun E n9 h9 q9 => by cases q9.2.2)
end YQ
def v_les (M : Nat → Nat → Int) (k : Nat) : Int := if 0 < M 5 k then M 5 k - 1 else -13
def v_end (M : Nat → Nat → Int) (k : Nat) : Int := if 0 < M 5 k then M 6 k else -13
theorem h_c0 {k v : Int} {cs : List Int} (hk : k = 0) : h_c k v cs = v := if_pos hk
theorem h_cx {p : Prop} [Decidable p] {v c : Int} (hp : ¬ p) : h_c (1 - o_b p) v [c] = c := by
  rw [o_b0 hp]; rfl
theorem h_ci {p : Prop} [Decidable p] {v : Int} {cs : List Int} (hp : p) : h_c (1 - o_b p) v cs = v := h_c0 (by rw [o_b1 hp]; rfl)
theorem fst_of {p : Nat → Prop} {N r : Nat} (h1 : r < N) (h2 : p r) (hu : ∀ j, j < N → p j → j = r) : o_fst p N (r : Int) := Or.inr ⟨r, rfl, h1, h2, fun j hj hp => by have := hu j (by omega) hp; omega⟩
theorem fst_no {p : Nat → Prop} {N : Nat} (h : ∀ j, j < N → ¬ p j) : o_fst p N (-1) := Or.inl ⟨rfl, h⟩
theorem rkS_inj {M : Nat → Nat → Int} {i j : Nat} (hi : (i : Int) < M 0 0) (hj : (j : Int) < M 0 0) (h : o_rkS M i = o_rkS M j) : i = j := by
  rw [s_rkP, s_rkP] at h
  exact rk_inj (P := fun _ => True) (s_ord M) (by omega) (by omega) trivial trivial h
theorem rkL_inj {M : Nat → Nat → Int} {i j : Nat} (hi : (i : Int) < M 0 1) (hj : (j : Int) < M 0 1) (pi : 0 < M 5 i) (pj : 0 < M 5 j) (h : o_rkL M i = o_rkL M j) : i = j :=
  rk_inj (P := fun i => 0 < M 5 i) (l_ord M) (by omega) (by omega) pi pj h
set_option maxRecDepth 100000 in
set_option maxHeartbeats 4000000 in
/-- level -/
theorem cl_level {l : Launch} (hl : l.stackTraces = false) (d : Nat) (g M : Nat → Nat → Int) (P : List (Nat → Nat → Int)) (S : Option (Nat → Nat → Int)) (T : Nat → Nat → Int) (hxd : o_xd g M P S T) (hwf : o_wf M) (k : Nat) (hk : (k : Int) < M 0 1) : o_Ct l yL_level wL_level (d + 4) o_no [.ref 0, .int (o_I (k : Int))] o_N (o_mem g) 1 6 (y_x (.int (o_I (M 4 k))) M P S T) := by
  obtain ⟨⟨hws, hwl, hwq, hwo, hwle, hwrq, hwrd⟩, hwh, hwc, hwe⟩ := id hwf
  have b0 := hws.1
  have b1 := hws.2.1
  have b2 := hwl.1
  have b3 := hwl.2.1
  have b4 := hwq.1
  have b5 := hwq.2.1
  have t := ct_L_level hl (d + 3) g M P S T _ _ (k : Int) (ct_X11_level hl d g M P S T hxd hwf (k : Int) ⟨by omega, by omega⟩)
  rw [h_ci ⟨by omega, hk⟩, Int.toNat_natCast] at t
  exact t
set_option maxRecDepth 100000 in
set_option maxHeartbeats 4000000 in
/-- level, where there is none -/
theorem cx_level {l : Launch} (hl : l.stackTraces = false) (d : Nat) (g M : Nat → Nat → Int) (P : List (Nat → Nat → Int)) (S : Option (Nat → Nat → Int)) (T : Nat → Nat → Int) (hxd : o_xd g M P S T) (hwf : o_wf M) (i : Int) (hi : o_R i) (hp : ¬ (0 ≤ i ∧ i < M 0 1)) : o_Ct l yL_level wL_level (d + 4) o_no [.ref 0, .int (o_I i)] o_N (o_mem g) 1 6 (y_x (.int (o_I (-11))) M P S T) := by
  have t := ct_L_level hl (d + 3) g M P S T _ _ i (ct_X11_level hl d g M P S T hxd hwf i hi)
  rw [h_cx hp] at t
  exact t
set_option maxRecDepth 100000 in
set_option maxHeartbeats 4000000 in
/-- bright -/
theorem cl_bright {l : Launch} (hl : l.stackTraces = false) (d : Nat) (g M : Nat → Nat → Int) (P : List (Nat → Nat → Int)) (S : Option (Nat → Nat → Int)) (T : Nat → Nat → Int) (hxd : o_xd g M P S T) (hwf : o_wf M) (k : Nat) (hk : (k : Int) < M 0 1) : o_Ct l yL_bright wL_bright (d + 4) o_no [.ref 0, .int (o_I (k : Int))] o_N (o_mem g) 1 6 (y_x (.int (o_I (M 7 k))) M P S T) := by
  obtain ⟨⟨hws, hwl, hwq, hwo, hwle, hwrq, hwrd⟩, hwh, hwc, hwe⟩ := id hwf
  have b0 := hws.1
  have b1 := hws.2.1
  have b2 := hwl.1
  have b3 := hwl.2.1
  have b4 := hwq.1
  have b5 := hwq.2.1
  have t := ct_L_bright hl (d + 3) g M P S T _ _ (k : Int) (ct_X11_brightHours hl d g M P S T hxd hwf (k : Int) ⟨by omega, by omega⟩)
  rw [h_ci ⟨by omega, hk⟩, Int.toNat_natCast] at t
  exact t
set_option maxRecDepth 100000 in
set_option maxHeartbeats 4000000 in
/-- bright, where there is none -/
theorem cx_bright {l : Launch} (hl : l.stackTraces = false) (d : Nat) (g M : Nat → Nat → Int) (P : List (Nat → Nat → Int)) (S : Option (Nat → Nat → Int)) (T : Nat → Nat → Int) (hxd : o_xd g M P S T) (hwf : o_wf M) (i : Int) (hi : o_R i) (hp : ¬ (0 ≤ i ∧ i < M 0 1)) : o_Ct l yL_bright wL_bright (d + 4) o_no [.ref 0, .int (o_I i)] o_N (o_mem g) 1 6 (y_x (.int (o_I (-11))) M P S T) := by
  have t := ct_L_bright hl (d + 3) g M P S T _ _ i (ct_X11_brightHours hl d g M P S T hxd hwf i hi)
  rw [h_cx hp] at t
  exact t
set_option maxRecDepth 100000 in
set_option maxHeartbeats 4000000 in
/-- coins -/
theorem cl_coins {l : Launch} (hl : l.stackTraces = false) (d : Nat) (g M : Nat → Nat → Int) (P : List (Nat → Nat → Int)) (S : Option (Nat → Nat → Int)) (T : Nat → Nat → Int) (hxd : o_xd g M P S T) (hwf : o_wf M) (k : Nat) (hk : (k : Int) < M 0 0) : o_Ct l yL_coins wL_coins (d + 4) o_no [.ref 0, .int (o_I (k : Int))] o_N (o_mem g) 1 6 (y_x (.int (o_I (M 1 k))) M P S T) := by
  obtain ⟨⟨hws, hwl, hwq, hwo, hwle, hwrq, hwrd⟩, hwh, hwc, hwe⟩ := id hwf
  have b0 := hws.1
  have b1 := hws.2.1
  have b2 := hwl.1
  have b3 := hwl.2.1
  have b4 := hwq.1
  have b5 := hwq.2.1
  have t := ct_L_coins hl (d + 3) g M P S T _ _ (k : Int) (ct_X11_coins hl d g M P S T hxd hwf (k : Int) ⟨by omega, by omega⟩)
  rw [h_ci ⟨by omega, hk⟩, Int.toNat_natCast] at t
  exact t
set_option maxRecDepth 100000 in
set_option maxHeartbeats 4000000 in
/-- coins, where there is none -/
theorem cx_coins {l : Launch} (hl : l.stackTraces = false) (d : Nat) (g M : Nat → Nat → Int) (P : List (Nat → Nat → Int)) (S : Option (Nat → Nat → Int)) (T : Nat → Nat → Int) (hxd : o_xd g M P S T) (hwf : o_wf M) (i : Int) (hi : o_R i) (hp : ¬ (0 ≤ i ∧ i < M 0 0)) : o_Ct l yL_coins wL_coins (d + 4) o_no [.ref 0, .int (o_I i)] o_N (o_mem g) 1 6 (y_x (.int (o_I (-11))) M P S T) := by
  have t := ct_L_coins hl (d + 3) g M P S T _ _ i (ct_X11_coins hl d g M P S T hxd hwf i hi)
  rw [h_cx hp] at t
  exact t
set_option maxRecDepth 100000 in
set_option maxHeartbeats 4000000 in
/-- fines -/
theorem cl_fines {l : Launch} (hl : l.stackTraces = false) (d : Nat) (g M : Nat → Nat → Int) (P : List (Nat → Nat → Int)) (S : Option (Nat → Nat → Int)) (T : Nat → Nat → Int) (hxd : o_xd g M P S T) (hwf : o_wf M) (k : Nat) (hk : (k : Int) < M 0 0) : o_Ct l yL_fines wL_fines (d + 4) o_no [.ref 0, .int (o_I (k : Int))] o_N (o_mem g) 1 6 (y_x (.int (o_I (M 2 k))) M P S T) := by
  obtain ⟨⟨hws, hwl, hwq, hwo, hwle, hwrq, hwrd⟩, hwh, hwc, hwe⟩ := id hwf
  have b0 := hws.1
  have b1 := hws.2.1
  have b2 := hwl.1
  have b3 := hwl.2.1
  have b4 := hwq.1
  have b5 := hwq.2.1
  have t := ct_L_fines hl (d + 3) g M P S T _ _ (k : Int) (ct_X11_finesPaid hl d g M P S T hxd hwf (k : Int) ⟨by omega, by omega⟩)
  rw [h_ci ⟨by omega, hk⟩, Int.toNat_natCast] at t
  exact t
set_option maxRecDepth 100000 in
set_option maxHeartbeats 4000000 in
/-- fines, where there is none -/
theorem cx_fines {l : Launch} (hl : l.stackTraces = false) (d : Nat) (g M : Nat → Nat → Int) (P : List (Nat → Nat → Int)) (S : Option (Nat → Nat → Int)) (T : Nat → Nat → Int) (hxd : o_xd g M P S T) (hwf : o_wf M) (i : Int) (hi : o_R i) (hp : ¬ (0 ≤ i ∧ i < M 0 0)) : o_Ct l yL_fines wL_fines (d + 4) o_no [.ref 0, .int (o_I i)] o_N (o_mem g) 1 6 (y_x (.int (o_I (-11))) M P S T) := by
  have t := ct_L_fines hl (d + 3) g M P S T _ _ i (ct_X11_finesPaid hl d g M P S T hxd hwf i hi)
  rw [h_cx hp] at t
  exact t
set_option maxRecDepth 100000 in
set_option maxHeartbeats 4000000 in
/-- dark -/
theorem cl_dark {l : Launch} (hl : l.stackTraces = false) (d : Nat) (g M : Nat → Nat → Int) (P : List (Nat → Nat → Int)) (S : Option (Nat → Nat → Int)) (T : Nat → Nat → Int) (hxd : o_xd g M P S T) (hwf : o_wf M) (k : Nat) (hk : (k : Int) < M 0 0) : o_Ct l yL_dark wL_dark (d + 4) o_no [.ref 0, .int (o_I (k : Int))] o_N (o_mem g) 1 6 (y_x (.int (o_I (M 3 k))) M P S T) := by
  obtain ⟨⟨hws, hwl, hwq, hwo, hwle, hwrq, hwrd⟩, hwh, hwc, hwe⟩ := id hwf
  have b0 := hws.1
  have b1 := hws.2.1
  have b2 := hwl.1
  have b3 := hwl.2.1
  have b4 := hwq.1
  have b5 := hwq.2.1
  have t := ct_L_dark hl (d + 3) g M P S T _ _ (k : Int) (ct_X11_darkHours hl d g M P S T hxd hwf (k : Int) ⟨by omega, by omega⟩)
  rw [h_ci ⟨by omega, hk⟩, Int.toNat_natCast] at t
  exact t
set_option maxRecDepth 100000 in
set_option maxHeartbeats 4000000 in
/-- dark, where there is none -/
theorem cx_dark {l : Launch} (hl : l.stackTraces = false) (d : Nat) (g M : Nat → Nat → Int) (P : List (Nat → Nat → Int)) (S : Option (Nat → Nat → Int)) (T : Nat → Nat → Int) (hxd : o_xd g M P S T) (hwf : o_wf M) (i : Int) (hi : o_R i) (hp : ¬ (0 ≤ i ∧ i < M 0 0)) : o_Ct l yL_dark wL_dark (d + 4) o_no [.ref 0, .int (o_I i)] o_N (o_mem g) 1 6 (y_x (.int (o_I (-11))) M P S T) := by
  have t := ct_L_dark hl (d + 3) g M P S T _ _ i (ct_X11_darkHours hl d g M P S T hxd hwf i hi)
  rw [h_cx hp] at t
  exact t
set_option maxRecDepth 100000 in
set_option maxHeartbeats 4000000 in
/-- asked -/
theorem cl_asked {l : Launch} (hl : l.stackTraces = false) (d : Nat) (g M : Nat → Nat → Int) (P : List (Nat → Nat → Int)) (S : Option (Nat → Nat → Int)) (T : Nat → Nat → Int) (hxd : o_xd g M P S T) (hwf : o_wf M) (k : Nat) (hk : (k : Int) < M 0 6) : o_Ct l yL_asked wL_asked (d + 4) o_no [.ref 0, .int (o_I (k : Int))] o_N (o_mem g) 1 6 (y_x (.int (o_I (M 9 k))) M P S T) := by
  obtain ⟨⟨hws, hwl, hwq, hwo, hwle, hwrq, hwrd⟩, hwh, hwc, hwe⟩ := id hwf
  have b0 := hws.1
  have b1 := hws.2.1
  have b2 := hwl.1
  have b3 := hwl.2.1
  have b4 := hwq.1
  have b5 := hwq.2.1
  have t := ct_L_asked hl (d + 3) g M P S T _ _ (k : Int) (ct_X11_requestedLamp hl d g M P S T hxd hwf (k : Int) ⟨by omega, by omega⟩)
  rw [h_ci ⟨by omega, hk⟩, Int.toNat_natCast] at t
  exact t
set_option maxRecDepth 100000 in
set_option maxHeartbeats 4000000 in
/-- asked, where there is none -/
theorem cx_asked {l : Launch} (hl : l.stackTraces = false) (d : Nat) (g M : Nat → Nat → Int) (P : List (Nat → Nat → Int)) (S : Option (Nat → Nat → Int)) (T : Nat → Nat → Int) (hxd : o_xd g M P S T) (hwf : o_wf M) (i : Int) (hi : o_R i) (hp : ¬ (0 ≤ i ∧ i < M 0 6)) : o_Ct l yL_asked wL_asked (d + 4) o_no [.ref 0, .int (o_I i)] o_N (o_mem g) 1 6 (y_x (.int (o_I (-13))) M P S T) := by
  have t := ct_L_asked hl (d + 3) g M P S T _ _ i (ct_X11_requestedLamp hl d g M P S T hxd hwf i hi)
  rw [h_cx hp] at t
  exact t
set_option maxRecDepth 100000 in
set_option maxHeartbeats 4000000 in
/-- askedHours -/
theorem cl_askedHours {l : Launch} (hl : l.stackTraces = false) (d : Nat) (g M : Nat → Nat → Int) (P : List (Nat → Nat → Int)) (S : Option (Nat → Nat → Int)) (T : Nat → Nat → Int) (hxd : o_xd g M P S T) (hwf : o_wf M) (k : Nat) (hk : (k : Int) < M 0 6) : o_Ct l yL_askedHours wL_askedHours (d + 4) o_no [.ref 0, .int (o_I (k : Int))] o_N (o_mem g) 1 6 (y_x (.int (o_I (M 10 k))) M P S T) := by
  obtain ⟨⟨hws, hwl, hwq, hwo, hwle, hwrq, hwrd⟩, hwh, hwc, hwe⟩ := id hwf
  have b0 := hws.1
  have b1 := hws.2.1
  have b2 := hwl.1
  have b3 := hwl.2.1
  have b4 := hwq.1
  have b5 := hwq.2.1
  have t := ct_L_askedHours hl (d + 3) g M P S T _ _ (k : Int) (ct_X11_requestedHours hl d g M P S T hxd hwf (k : Int) ⟨by omega, by omega⟩)
  rw [h_ci ⟨by omega, hk⟩, Int.toNat_natCast] at t
  exact t
set_option maxRecDepth 100000 in
set_option maxHeartbeats 4000000 in
/-- askedHours, where there is none -/
theorem cx_askedHours {l : Launch} (hl : l.stackTraces = false) (d : Nat) (g M : Nat → Nat → Int) (P : List (Nat → Nat → Int)) (S : Option (Nat → Nat → Int)) (T : Nat → Nat → Int) (hxd : o_xd g M P S T) (hwf : o_wf M) (i : Int) (hi : o_R i) (hp : ¬ (0 ≤ i ∧ i < M 0 6)) : o_Ct l yL_askedHours wL_askedHours (d + 4) o_no [.ref 0, .int (o_I i)] o_N (o_mem g) 1 6 (y_x (.int (o_I (-13))) M P S T) := by
  have t := ct_L_askedHours hl (d + 3) g M P S T _ _ i (ct_X11_requestedHours hl d g M P S T hxd hwf i hi)
  rw [h_cx hp] at t
  exact t
set_option maxRecDepth 100000 in
set_option maxHeartbeats 4000000 in
/-- demand -/
theorem cl_demand {l : Launch} (hl : l.stackTraces = false) (d : Nat) (g M : Nat → Nat → Int) (P : List (Nat → Nat → Int)) (S : Option (Nat → Nat → Int)) (T : Nat → Nat → Int) (hxd : o_xd g M P S T) (hwf : o_wf M) (k : Nat) (hk : (k : Int) < M 0 0) : o_Ct l yL_demand wL_demand (d + 5) o_no [.ref 0, .int (o_I (k : Int))] o_N (o_mem g) 1 6 (y_x (.int (o_I (d_of M (k : Int)))) M P S T) := by
  obtain ⟨⟨hws, hwl, hwq, hwo, hwle, hwrq, hwrd⟩, hwh, hwc, hwe⟩ := id hwf
  have b0 := hws.1
  have b1 := hws.2.1
  have b2 := hwl.1
  have b3 := hwl.2.1
  have b4 := hwq.1
  have b5 := hwq.2.1
  have t := ct_L_demand hl (d + 4) g M P S T _ _ (k : Int) (ct_X11_demand hl d g M P S T hxd hwf (k : Int) ⟨by omega, by omega⟩)
  rw [h_ci ⟨by omega, hk⟩] at t
  exact t
set_option maxRecDepth 100000 in
set_option maxHeartbeats 4000000 in
/-- demand, where there is none -/
theorem cx_demand {l : Launch} (hl : l.stackTraces = false) (d : Nat) (g M : Nat → Nat → Int) (P : List (Nat → Nat → Int)) (S : Option (Nat → Nat → Int)) (T : Nat → Nat → Int) (hxd : o_xd g M P S T) (hwf : o_wf M) (i : Int) (hi : o_R i) (hp : ¬ (0 ≤ i ∧ i < M 0 0)) : o_Ct l yL_demand wL_demand (d + 5) o_no [.ref 0, .int (o_I i)] o_N (o_mem g) 1 6 (y_x (.int (o_I (-11))) M P S T) := by
  have t := ct_L_demand hl (d + 4) g M P S T _ _ i (ct_X11_demand hl d g M P S T hxd hwf i hi)
  rw [h_cx hp] at t
  exact t
set_option maxRecDepth 100000 in
set_option maxHeartbeats 4000000 in
/-- leases -/
theorem cl_leases {l : Launch} (hl : l.stackTraces = false) (d : Nat) (g M : Nat → Nat → Int) (P : List (Nat → Nat → Int)) (S : Option (Nat → Nat → Int)) (T : Nat → Nat → Int) (hxd : o_xd g M P S T) (hwf : o_wf M) (k : Nat) (hk : (k : Int) < M 0 0) : o_Ct l yL_leases wL_leases (d + 5) o_no [.ref 0, .int (o_I (k : Int))] o_N (o_mem g) 1 6 (y_x (.int (o_I (m_cnt M (k : Int)))) M P S T) := by
  obtain ⟨⟨hws, hwl, hwq, hwo, hwle, hwrq, hwrd⟩, hwh, hwc, hwe⟩ := id hwf
  have b0 := hws.1
  have b1 := hws.2.1
  have b2 := hwl.1
  have b3 := hwl.2.1
  have b4 := hwq.1
  have b5 := hwq.2.1
  have t := ct_L_leases hl (d + 4) g M P S T _ _ (k : Int) (ct_X11_leasesOf hl d g M P S T hxd hwf (k : Int) ⟨by omega, by omega⟩)
  rw [h_ci ⟨by omega, hk⟩] at t
  exact t
set_option maxRecDepth 100000 in
set_option maxHeartbeats 4000000 in
/-- leases, where there is none -/
theorem cx_leases {l : Launch} (hl : l.stackTraces = false) (d : Nat) (g M : Nat → Nat → Int) (P : List (Nat → Nat → Int)) (S : Option (Nat → Nat → Int)) (T : Nat → Nat → Int) (hxd : o_xd g M P S T) (hwf : o_wf M) (i : Int) (hi : o_R i) (hp : ¬ (0 ≤ i ∧ i < M 0 0)) : o_Ct l yL_leases wL_leases (d + 5) o_no [.ref 0, .int (o_I i)] o_N (o_mem g) 1 6 (y_x (.int (o_I (-11))) M P S T) := by
  have t := ct_L_leases hl (d + 4) g M P S T _ _ i (ct_X11_leasesOf hl d g M P S T hxd hwf i hi)
  rw [h_cx hp] at t
  exact t
set_option maxRecDepth 100000 in
set_option maxHeartbeats 4000000 in
/-- share -/
theorem cl_share {l : Launch} (hl : l.stackTraces = false) (d : Nat) (g M : Nat → Nat → Int) (P : List (Nat → Nat → Int)) (S : Option (Nat → Nat → Int)) (T : Nat → Nat → Int) (hxd : o_xd g M P S T) (hwf : o_wf M) (k : Nat) (hk : (k : Int) < M 0 0) : o_Ct l yL_share wL_share (d + 6) o_no [.ref 0, .int (o_I (k : Int))] o_N (o_mem g) 1 6 (y_x (.int (o_I (d_sh M k))) M P S T) := by
  obtain ⟨⟨hws, hwl, hwq, hwo, hwle, hwrq, hwrd⟩, hwh, hwc, hwe⟩ := id hwf
  have b0 := hws.1
  have b1 := hws.2.1
  have b2 := hwl.1
  have b3 := hwl.2.1
  have b4 := hwq.1
  have b5 := hwq.2.1
  have t := ct_L_share hl (d + 5) g M P S T _ _ (k : Int) (ct_X11_share hl d g M P S T hxd hwf (k : Int) ⟨by omega, by omega⟩)
  rw [h_ci ⟨by omega, hk⟩, Int.toNat_natCast] at t
  exact t
set_option maxRecDepth 100000 in
set_option maxHeartbeats 4000000 in
/-- share, where there is none -/
theorem cx_share {l : Launch} (hl : l.stackTraces = false) (d : Nat) (g M : Nat → Nat → Int) (P : List (Nat → Nat → Int)) (S : Option (Nat → Nat → Int)) (T : Nat → Nat → Int) (hxd : o_xd g M P S T) (hwf : o_wf M) (i : Int) (hi : o_R i) (hp : ¬ (0 ≤ i ∧ i < M 0 0)) : o_Ct l yL_share wL_share (d + 6) o_no [.ref 0, .int (o_I i)] o_N (o_mem g) 1 6 (y_x (.int (o_I (-11))) M P S T) := by
  have t := ct_L_share hl (d + 5) g M P S T _ _ i (ct_X11_share hl d g M P S T hxd hwf i hi)
  rw [h_cx hp] at t
  exact t
set_option maxRecDepth 100000 in
set_option maxHeartbeats 4000000 in
/-- byRank -/
theorem cl_byRank {l : Launch} (hl : l.stackTraces = false) (d : Nat) (g M : Nat → Nat → Int) (P : List (Nat → Nat → Int)) (S : Option (Nat → Nat → Int)) (T : Nat → Nat → Int) (hxd : o_xd g M P S T) (hwf : o_wf M) (k : Nat) (hk : (k : Int) < M 0 0) : o_Ct l yL_byRank wL_byRank (d + 6) o_no [.ref 0, .int (o_I (k : Int))] o_N (o_mem g) 1 6 (y_x (.int (o_I (d_sh M k))) M P S T) := by
  obtain ⟨⟨hws, hwl, hwq, hwo, hwle, hwrq, hwrd⟩, hwh, hwc, hwe⟩ := id hwf
  have b0 := hws.1
  have b1 := hws.2.1
  have b2 := hwl.1
  have b3 := hwl.2.1
  have b4 := hwq.1
  have b5 := hwq.2.1
  have t := ct_L_byRank hl (d + 5) g M P S T _ _ (k : Int) (ct_X11_shareByRank hl d g M P S T hxd hwf (k : Int) ⟨by omega, by omega⟩)
  rw [h_ci ⟨by omega, hk⟩, Int.toNat_natCast] at t
  exact t
set_option maxRecDepth 100000 in
set_option maxHeartbeats 4000000 in
/-- byRank, where there is none -/
theorem cx_byRank {l : Launch} (hl : l.stackTraces = false) (d : Nat) (g M : Nat → Nat → Int) (P : List (Nat → Nat → Int)) (S : Option (Nat → Nat → Int)) (T : Nat → Nat → Int) (hxd : o_xd g M P S T) (hwf : o_wf M) (i : Int) (hi : o_R i) (hp : ¬ (0 ≤ i ∧ i < M 0 0)) : o_Ct l yL_byRank wL_byRank (d + 6) o_no [.ref 0, .int (o_I i)] o_N (o_mem g) 1 6 (y_x (.int (o_I (-11))) M P S T) := by
  have t := ct_L_byRank hl (d + 5) g M P S T _ _ i (ct_X11_shareByRank hl d g M P S T hxd hwf i hi)
  rw [h_cx hp] at t
  exact t
set_option maxRecDepth 100000 in
set_option maxHeartbeats 4000000 in
/-- isLeased -/
theorem cl_isLeased {l : Launch} (hl : l.stackTraces = false) (d : Nat) (g M : Nat → Nat → Int) (P : List (Nat → Nat → Int)) (S : Option (Nat → Nat → Int)) (T : Nat → Nat → Int) (hxd : o_xd g M P S T) (hwf : o_wf M) (k : Nat) (hk : (k : Int) < M 0 1) : o_Ct l yL_isLeased wL_isLeased (d + 5) o_no [.ref 0, .int (o_I (k : Int))] o_N (o_mem g) 1 6 (y_x (.int (o_I (o_b (0 < M 5 k)))) M P S T) := by
  obtain ⟨⟨hws, hwl, hwq, hwo, hwle, hwrq, hwrd⟩, hwh, hwc, hwe⟩ := id hwf
  have b0 := hws.1
  have b1 := hws.2.1
  have b2 := hwl.1
  have b3 := hwl.2.1
  have b4 := hwq.1
  have b5 := hwq.2.1
  have t := ct_L_isLeased hl (d + 4) g M P S T _ _ (o_b01 _) (k : Int) (ct_X11_isLeased hl d g M P S T hxd hwf (k : Int) ⟨by omega, by omega⟩)
  rw [h_ci ⟨by omega, hk⟩, Int.toNat_natCast] at t
  exact t
set_option maxRecDepth 100000 in
set_option maxHeartbeats 4000000 in
/-- isLeased, where there is none -/
theorem cx_isLeased {l : Launch} (hl : l.stackTraces = false) (d : Nat) (g M : Nat → Nat → Int) (P : List (Nat → Nat → Int)) (S : Option (Nat → Nat → Int)) (T : Nat → Nat → Int) (hxd : o_xd g M P S T) (hwf : o_wf M) (i : Int) (hi : o_R i) (hp : ¬ (0 ≤ i ∧ i < M 0 1)) : o_Ct l yL_isLeased wL_isLeased (d + 5) o_no [.ref 0, .int (o_I i)] o_N (o_mem g) 1 6 (y_x (.int (o_I (-11))) M P S T) := by
  have t := ct_L_isLeased hl (d + 4) g M P S T _ _ (o_b01 _) i (ct_X11_isLeased hl d g M P S T hxd hwf i hi)
  rw [h_cx hp] at t
  exact t
set_option maxRecDepth 100000 in
set_option maxHeartbeats 4000000 in
/-- was -/
theorem cl_was {l : Launch} (hl : l.stackTraces = false) (d : Nat) (g M : Nat → Nat → Int) (P : List (Nat → Nat → Int)) (S : Option (Nat → Nat → Int)) (T : Nat → Nat → Int) (hxd : o_xd g M P S T) (hwf : o_wf M) (k : Nat) (hk : (k : Int) < M 0 1) : o_Ct l yL_was wL_was (d + 4) o_no [.ref 0, .int (o_I (k : Int))] o_N (o_mem g) 1 6 (y_x (.int (o_I (o_b (M 8 k = 1)))) M P S T) := by
  obtain ⟨⟨hws, hwl, hwq, hwo, hwle, hwrq, hwrd⟩, hwh, hwc, hwe⟩ := id hwf
  have b0 := hws.1
  have b1 := hws.2.1
  have b2 := hwl.1
  have b3 := hwl.2.1
  have b4 := hwq.1
  have b5 := hwq.2.1
  have t := ct_L_was hl (d + 3) g M P S T _ _ (o_b01 _) (k : Int) (ct_X11_wasBright hl d g M P S T hxd hwf (k : Int) ⟨by omega, by omega⟩)
  rw [h_ci ⟨by omega, hk⟩, Int.toNat_natCast] at t
  exact t
set_option maxRecDepth 100000 in
set_option maxHeartbeats 4000000 in
/-- was, where there is none -/
theorem cx_was {l : Launch} (hl : l.stackTraces = false) (d : Nat) (g M : Nat → Nat → Int) (P : List (Nat → Nat → Int)) (S : Option (Nat → Nat → Int)) (T : Nat → Nat → Int) (hxd : o_xd g M P S T) (hwf : o_wf M) (i : Int) (hi : o_R i) (hp : ¬ (0 ≤ i ∧ i < M 0 1)) : o_Ct l yL_was wL_was (d + 4) o_no [.ref 0, .int (o_I i)] o_N (o_mem g) 1 6 (y_x (.int (o_I (-11))) M P S T) := by
  have t := ct_L_was hl (d + 3) g M P S T _ _ (o_b01 _) i (ct_X11_wasBright hl d g M P S T hxd hwf i hi)
  rw [h_cx hp] at t
  exact t
set_option maxRecDepth 100000 in
set_option maxHeartbeats 4000000 in
/-- lessee -/
theorem cl_lessee {l : Launch} (hl : l.stackTraces = false) (d : Nat) (g M : Nat → Nat → Int) (P : List (Nat → Nat → Int)) (S : Option (Nat → Nat → Int)) (T : Nat → Nat → Int) (hxd : o_xd g M P S T) (hwf : o_wf M) (k : Nat) (hk : (k : Int) < M 0 1) : o_Ct l yL_lessee wL_lessee (d + 5) o_no [.ref 0, .int (o_I (k : Int))] o_N (o_mem g) 1 6 (y_x (.int (o_I (v_les M k))) M P S T) := by
  obtain ⟨⟨hws, hwl, hwq, hwo, hwle, hwrq, hwrd⟩, hwh, hwc, hwe⟩ := id hwf
  have b0 := hws.1
  have b1 := hws.2.1
  have b2 := hwl.1
  have b3 := hwl.2.1
  have b4 := hwq.1
  have b5 := hwq.2.1
  have t := ct_L_lessee hl (d + 4) g M P S T _ _ (k : Int) (ct_X11_lessee hl d g M P S T hxd hwf (k : Int) ⟨by omega, by omega⟩)
  rw [show h_c (r_unl M (k : Int)) _ [-11, -13] = v_les M k from (by
    rw [Int.toNat_natCast]
    unfold r_unl v_les
    rw [if_neg (fun z => z ⟨by omega, hk⟩), Int.toNat_natCast]
    split <;> rfl)] at t
  exact t
set_option maxRecDepth 100000 in
set_option maxHeartbeats 4000000 in
/-- lessee, where there is none -/
theorem cx_lessee {l : Launch} (hl : l.stackTraces = false) (d : Nat) (g M : Nat → Nat → Int) (P : List (Nat → Nat → Int)) (S : Option (Nat → Nat → Int)) (T : Nat → Nat → Int) (hxd : o_xd g M P S T) (hwf : o_wf M) (i : Int) (hi : o_R i) (hp : ¬ (0 ≤ i ∧ i < M 0 1)) : o_Ct l yL_lessee wL_lessee (d + 5) o_no [.ref 0, .int (o_I i)] o_N (o_mem g) 1 6 (y_x (.int (o_I (-11))) M P S T) := by
  have t := ct_L_lessee hl (d + 4) g M P S T _ _ i (ct_X11_lessee hl d g M P S T hxd hwf i hi)
  rw [show h_c (r_unl M i) _ [-11, -13] = -11 from (by
    unfold r_unl
    rw [if_pos hp]
    rfl)] at t
  exact t
set_option maxRecDepth 100000 in
set_option maxHeartbeats 4000000 in
/-- end -/
theorem cl_end {l : Launch} (hl : l.stackTraces = false) (d : Nat) (g M : Nat → Nat → Int) (P : List (Nat → Nat → Int)) (S : Option (Nat → Nat → Int)) (T : Nat → Nat → Int) (hxd : o_xd g M P S T) (hwf : o_wf M) (k : Nat) (hk : (k : Int) < M 0 1) : o_Ct l yL_end wL_end (d + 5) o_no [.ref 0, .int (o_I (k : Int))] o_N (o_mem g) 1 6 (y_x (.int (o_I (v_end M k))) M P S T) := by
  obtain ⟨⟨hws, hwl, hwq, hwo, hwle, hwrq, hwrd⟩, hwh, hwc, hwe⟩ := id hwf
  have b0 := hws.1
  have b1 := hws.2.1
  have b2 := hwl.1
  have b3 := hwl.2.1
  have b4 := hwq.1
  have b5 := hwq.2.1
  have t := ct_L_end hl (d + 4) g M P S T _ _ (k : Int) (ct_X11_endHour hl d g M P S T hxd hwf (k : Int) ⟨by omega, by omega⟩)
  rw [show h_c (r_unl M (k : Int)) _ [-11, -13] = v_end M k from (by
    rw [Int.toNat_natCast]
    unfold r_unl v_end
    rw [if_neg (fun z => z ⟨by omega, hk⟩), Int.toNat_natCast]
    split <;> rfl)] at t
  exact t
set_option maxRecDepth 100000 in
set_option maxHeartbeats 4000000 in
/-- end, where there is none -/
theorem cx_end {l : Launch} (hl : l.stackTraces = false) (d : Nat) (g M : Nat → Nat → Int) (P : List (Nat → Nat → Int)) (S : Option (Nat → Nat → Int)) (T : Nat → Nat → Int) (hxd : o_xd g M P S T) (hwf : o_wf M) (i : Int) (hi : o_R i) (hp : ¬ (0 ≤ i ∧ i < M 0 1)) : o_Ct l yL_end wL_end (d + 5) o_no [.ref 0, .int (o_I i)] o_N (o_mem g) 1 6 (y_x (.int (o_I (-11))) M P S T) := by
  have t := ct_L_end hl (d + 4) g M P S T _ _ i (ct_X11_endHour hl d g M P S T hxd hwf i hi)
  rw [show h_c (r_unl M i) _ [-11, -13] = -11 from (by
    unfold r_unl
    rw [if_pos hp]
    rfl)] at t
  exact t
set_option maxRecDepth 100000 in
set_option maxHeartbeats 4000000 in
/-- hoursOfOil -/
theorem cl_hoursOfOil {l : Launch} (hl : l.stackTraces = false) (d : Nat) (g M : Nat → Nat → Int) (P : List (Nat → Nat → Int)) (S : Option (Nat → Nat → Int)) (T : Nat → Nat → Int) (hxd : o_xd g M P S T) (hwf : o_wf M) (r : Int) (hr9 : n_hp M 501 0 (M 0 2) = r) : o_Ct l yL_hoursOfOil wL_hoursOfOil (d + 5) o_no [.ref 0] o_N (o_mem g) 1 6 (y_x (.int (o_I (if r = -1 then -13 else r))) M P S T) := by
  have t := ct_L_hoursOfOil hl (d + 4) g M P S T _ _ (ct_X11_hoursOfOil hl d g M P S T hxd hwf r hr9)
  rw [show h_c (if r = -1 then 1 else 0) (if r = -1 then 0 else r) [-13] = if r = -1 then -13 else r from (by
    split <;> rfl)] at t
  exact t
set_option maxRecDepth 100000 in
set_option maxHeartbeats 4000000 in
/-- byEnds -/
theorem cl_byEnds {l : Launch} (hl : l.stackTraces = false) (d : Nat) (g M : Nat → Nat → Int) (P : List (Nat → Nat → Int)) (S : Option (Nat → Nat → Int)) (T : Nat → Nat → Int) (hxd : o_xd g M P S T) (hwf : o_wf M) (r : Int) (hr9 : n_hp M 501 0 (M 0 2) = r) : o_Ct l yL_byEnds wL_byEnds (d + 5) o_no [.ref 0] o_N (o_mem g) 1 6 (y_x (.int (o_I (if r = -1 then -13 else r))) M P S T) := by
  have t := ct_L_byEnds hl (d + 4) g M P S T _ _ (ct_X11_hoursOfOilByEnds hl d g M P S T hxd hwf r hr9)
  rw [show h_c (if r = -1 then 1 else 0) (if r = -1 then 0 else r) [-13] = if r = -1 then -13 else r from (by
    split <;> rfl)] at t
  exact t
set_option maxRecDepth 100000 in
set_option maxHeartbeats 4000000 in
/-- byFines -/
theorem cl_byFines {l : Launch} (hl : l.stackTraces = false) (d : Nat) (g M : Nat → Nat → Int) (P : List (Nat → Nat → Int)) (S : Option (Nat → Nat → Int)) (T : Nat → Nat → Int) (hxd : o_xd g M P S T) (hwf : o_wf M) (k r : Nat) (hr : (r : Int) < M 0 0) (hk : o_rkS M r = (k : Int)) (hk2 : (k : Int) < M 0 0) : o_Ct l yL_byFines wL_byFines (d + 5) o_no [.ref 0, .int (o_I (k : Int))] o_N (o_mem g) 1 6 (y_x (.int (o_I (r : Int))) M P S T) := by
  obtain ⟨⟨hws, hwl, hwq, hwo, hwle, hwrq, hwrd⟩, hwh, hwc, hwe⟩ := id hwf
  have b0 := hws.1
  have b1 := hws.2.1
  have b2 := hwl.1
  have b3 := hwl.2.1
  have b4 := hwq.1
  have b5 := hwq.2.1
  have t := ct_L_byFines hl (d + 4) g M P S T _ _ (k : Int) (ct_X11_shipByFines hl d g M P S T hxd hwf (k : Int) ⟨by omega, by omega⟩ (r : Int) (fst_of (by omega) hk (fun j hj hp => rkS_inj (by omega) hr (hp.trans hk.symm))))
  rw [h_ci ⟨by omega, hk2⟩] at t
  exact t
set_option maxRecDepth 100000 in
set_option maxHeartbeats 4000000 in
/-- byFines, where there is none -/
theorem cx_byFines {l : Launch} (hl : l.stackTraces = false) (d : Nat) (g M : Nat → Nat → Int) (P : List (Nat → Nat → Int)) (S : Option (Nat → Nat → Int)) (T : Nat → Nat → Int) (hxd : o_xd g M P S T) (hwf : o_wf M) (i : Int) (hi : o_R i) (hp : ¬ (0 ≤ i ∧ i < M 0 0)) : o_Ct l yL_byFines wL_byFines (d + 5) o_no [.ref 0, .int (o_I i)] o_N (o_mem g) 1 6 (y_x (.int (o_I (-13))) M P S T) := by
  obtain ⟨⟨hws, hwl, hwq, hwo, hwle, hwrq, hwrd⟩, hwh, hwc, hwe⟩ := id hwf
  have b0 := hws.1
  have b1 := hws.2.1
  have b2 := hwl.1
  have b3 := hwl.2.1
  have b4 := hwq.1
  have b5 := hwq.2.1
  obtain ⟨r, hr⟩ : ∃ r, o_fst (fun j => o_rkS M j = i) (M 0 0).toNat r := ⟨-1, fst_no (fun j hj e => by
    have t := (s_at b0 (fst_of (p := fun j => o_rkS M j = i) hj e (fun k hk e2 => rkS_inj (by omega) (by omega) (e2.trans e.symm)))).mpr (by omega)
    exact hp t)⟩
  have t := ct_L_byFines hl (d + 4) g M P S T _ _ i (ct_X11_shipByFines hl d g M P S T hxd hwf i hi r hr)
  rw [h_cx hp] at t
  exact t
set_option maxRecDepth 100000 in
set_option maxHeartbeats 4000000 in
/-- byEnd -/
theorem cl_byEnd {l : Launch} (hl : l.stackTraces = false) (d : Nat) (g M : Nat → Nat → Int) (P : List (Nat → Nat → Int)) (S : Option (Nat → Nat → Int)) (T : Nat → Nat → Int) (hxd : o_xd g M P S T) (hwf : o_wf M) (k r : Nat) (hr : (r : Int) < M 0 1) (hr5 : 0 < M 5 r) (hk : o_rkL M r = (k : Int)) (hk2 : (k : Int) < o_sm (fun i => o_b (0 < M 5 i)) (M 0 1).toNat) : o_Ct l yL_byEnd wL_byEnd (d + 5) o_no [.ref 0, .int (o_I (k : Int))] o_N (o_mem g) 1 6 (y_x (.int (o_I (r : Int))) M P S T) := by
  obtain ⟨⟨hws, hwl, hwq, hwo, hwle, hwrq, hwrd⟩, hwh, hwc, hwe⟩ := id hwf
  have b0 := hws.1
  have b1 := hws.2.1
  have b2 := hwl.1
  have b3 := hwl.2.1
  have b4 := hwq.1
  have b5 := hwq.2.1
  have q1 : o_sm (fun i => o_b (0 < M 5 i)) (M 0 1).toNat ≤ 8 := by have := (o_sm_b (fun i => 0 < M 5 i) (M 0 1).toNat).2; omega
  have t := ct_L_byEnd hl (d + 4) g M P S T _ _ (k : Int) (ct_X11_lampByEnd hl d g M P S T hxd hwf (k : Int) ⟨by omega, by omega⟩ (r : Int) (fst_of (by omega) ⟨hr5, hk⟩ (fun j hj hp => rkL_inj (by omega) hr hp.1 hr5 (hp.2.trans hk.symm))))
  rw [h_ci ⟨by omega, by omega⟩] at t
  exact t
set_option maxRecDepth 100000 in
set_option maxHeartbeats 4000000 in
/-- byEnd, where there is none -/
theorem cx_byEnd {l : Launch} (hl : l.stackTraces = false) (d : Nat) (g M : Nat → Nat → Int) (P : List (Nat → Nat → Int)) (S : Option (Nat → Nat → Int)) (T : Nat → Nat → Int) (hxd : o_xd g M P S T) (hwf : o_wf M) (i : Int) (hi : o_R i) (hp : ¬ (0 ≤ i ∧ i < o_sm (fun i => o_b (0 < M 5 i)) (M 0 1).toNat)) : o_Ct l yL_byEnd wL_byEnd (d + 5) o_no [.ref 0, .int (o_I i)] o_N (o_mem g) 1 6 (y_x (.int (o_I (-13))) M P S T) := by
  obtain ⟨⟨hws, hwl, hwq, hwo, hwle, hwrq, hwrd⟩, hwh, hwc, hwe⟩ := id hwf
  have b0 := hws.1
  have b1 := hws.2.1
  have b2 := hwl.1
  have b3 := hwl.2.1
  have b4 := hwq.1
  have b5 := hwq.2.1
  have hp9 : ¬ (0 ≤ i ∧ i ≤ o_sm (fun i => o_b (0 < M 5 i)) (M 0 1).toNat - 1) := fun z => hp ⟨z.1, by have := z.2; omega⟩
  obtain ⟨r, hr⟩ : ∃ r, o_fst (fun j => 0 < M 5 j ∧ o_rkL M j = i) (M 0 1).toNat r := ⟨-1, fst_no (fun j hj e => by
    have t := (l_at (fst_of (p := fun j => 0 < M 5 j ∧ o_rkL M j = i) hj e (fun k hk e2 => rkL_inj (by omega) (by omega) e2.1 e.1 (e2.2.trans e.2.symm)))).mpr (by omega)
    exact hp9 t)⟩
  have t := ct_L_byEnd hl (d + 4) g M P S T _ _ i (ct_X11_lampByEnd hl d g M P S T hxd hwf i hi r hr)
  rw [h_cx hp9] at t
  exact t
set_option maxRecDepth 100000 in
set_option maxHeartbeats 4000000 in
/-- hour -/
theorem cv_hour {l : Launch} (hl : l.stackTraces = false) (d : Nat) (g M : Nat → Nat → Int) (P : List (Nat → Nat → Int)) (S : Option (Nat → Nat → Int)) (T : Nat → Nat → Int) (hxd : o_xd g M P S T) (hwf : o_wf M) : o_Ct l yX11_hour wX11_hour (d + 1) o_no [.ref 0] o_N (o_mem g) 0 0 (y_x (.int (o_I (M 0 3))) M P S T) := by
  exact o_Ct.wk (ct_X11_hour hl d g M P S T hxd hwf) (x_y rfl)
set_option maxRecDepth 100000 in
set_option maxHeartbeats 4000000 in
/-- shipCount -/
theorem cv_shipCount {l : Launch} (hl : l.stackTraces = false) (d : Nat) (g M : Nat → Nat → Int) (P : List (Nat → Nat → Int)) (S : Option (Nat → Nat → Int)) (T : Nat → Nat → Int) (hxd : o_xd g M P S T) (hwf : o_wf M) : o_Ct l yX11_shipCount wX11_shipCount (d + 1) o_no [.ref 0] o_N (o_mem g) 0 0 (y_x (.int (o_I (M 0 0))) M P S T) := by
  exact o_Ct.wk (ct_X11_shipCount hl d g M P S T hxd hwf) (x_y rfl)
set_option maxRecDepth 100000 in
set_option maxHeartbeats 4000000 in
/-- lampCount -/
theorem cv_lampCount {l : Launch} (hl : l.stackTraces = false) (d : Nat) (g M : Nat → Nat → Int) (P : List (Nat → Nat → Int)) (S : Option (Nat → Nat → Int)) (T : Nat → Nat → Int) (hxd : o_xd g M P S T) (hwf : o_wf M) : o_Ct l yX11_lampCount wX11_lampCount (d + 1) o_no [.ref 0] o_N (o_mem g) 0 0 (y_x (.int (o_I (M 0 1))) M P S T) := by
  exact o_Ct.wk (ct_X11_lampCount hl d g M P S T hxd hwf) (x_y rfl)
set_option maxRecDepth 100000 in
set_option maxHeartbeats 4000000 in
/-- oil -/
theorem cv_oil {l : Launch} (hl : l.stackTraces = false) (d : Nat) (g M : Nat → Nat → Int) (P : List (Nat → Nat → Int)) (S : Option (Nat → Nat → Int)) (T : Nat → Nat → Int) (hxd : o_xd g M P S T) (hwf : o_wf M) : o_Ct l yX11_oil wX11_oil (d + 1) o_no [.ref 0] o_N (o_mem g) 0 0 (y_x (.int (o_I (M 0 2))) M P S T) := by
  exact o_Ct.wk (ct_X11_oil hl d g M P S T hxd hwf) (x_y rfl)
set_option maxRecDepth 100000 in
set_option maxHeartbeats 4000000 in
/-- requestCount -/
theorem cv_requestCount {l : Launch} (hl : l.stackTraces = false) (d : Nat) (g M : Nat → Nat → Int) (P : List (Nat → Nat → Int)) (S : Option (Nat → Nat → Int)) (T : Nat → Nat → Int) (hxd : o_xd g M P S T) (hwf : o_wf M) : o_Ct l yX11_requestCount wX11_requestCount (d + 1) o_no [.ref 0] o_N (o_mem g) 0 0 (y_x (.int (o_I (M 0 6))) M P S T) := by
  exact o_Ct.wk (ct_X11_requestCount hl d g M P S T hxd hwf) (x_y rfl)
set_option maxRecDepth 100000 in
set_option maxHeartbeats 4000000 in
/-- refusedRenewals -/
theorem cv_refusedRenewals {l : Launch} (hl : l.stackTraces = false) (d : Nat) (g M : Nat → Nat → Int) (P : List (Nat → Nat → Int)) (S : Option (Nat → Nat → Int)) (T : Nat → Nat → Int) (hxd : o_xd g M P S T) (hwf : o_wf M) : o_Ct l yX11_refusedRenewals wX11_refusedRenewals (d + 1) o_no [.ref 0] o_N (o_mem g) 0 0 (y_x (.int (o_I (M 0 4))) M P S T) := by
  exact o_Ct.wk (ct_X11_refusedRenewals hl d g M P S T hxd hwf) (x_y rfl)
set_option maxRecDepth 100000 in
set_option maxHeartbeats 4000000 in
/-- officeCoins -/
theorem cv_officeCoins {l : Launch} (hl : l.stackTraces = false) (d : Nat) (g M : Nat → Nat → Int) (P : List (Nat → Nat → Int)) (S : Option (Nat → Nat → Int)) (T : Nat → Nat → Int) (hxd : o_xd g M P S T) (hwf : o_wf M) : o_Ct l yX11_officeCoins wX11_officeCoins (d + 1) o_no [.ref 0] o_N (o_mem g) 0 0 (y_x (.int (o_I (M 0 5))) M P S T) := by
  exact o_Ct.wk (ct_X11_officeCoins hl d g M P S T hxd hwf) (x_y rfl)
set_option maxRecDepth 100000 in
set_option maxHeartbeats 4000000 in
/-- undoCount -/
theorem cv_undoCount {l : Launch} (hl : l.stackTraces = false) (d : Nat) (g M : Nat → Nat → Int) (P : List (Nat → Nat → Int)) (S : Option (Nat → Nat → Int)) (T : Nat → Nat → Int) (hxd : o_xd g M P S T) (hwf : o_wf M) : o_Ct l yX11_undoCount wX11_undoCount (d + 1) o_no [.ref 0] o_N (o_mem g) 0 0 (y_x (.int (o_I ((P.length : Int)))) M P S T) := by
  exact o_Ct.wk (ct_X11_undoCount hl d g M P S T hxd hwf) (x_y rfl)
set_option maxRecDepth 100000 in
set_option maxHeartbeats 4000000 in
/-- leasedLamps -/
theorem cv_leasedLamps {l : Launch} (hl : l.stackTraces = false) (d : Nat) (g M : Nat → Nat → Int) (P : List (Nat → Nat → Int)) (S : Option (Nat → Nat → Int)) (T : Nat → Nat → Int) (hxd : o_xd g M P S T) (hwf : o_wf M) : o_Ct l yX11_leasedLamps wX11_leasedLamps (d + 3) o_no [.ref 0] o_N (o_mem g) 0 0 (y_x (.int (o_I (o_sm (fun i => o_b (0 < M 5 i)) (M 0 1).toNat))) M P S T) := by
  exact o_Ct.wk (ct_X11_leasedLamps hl d g M P S T hxd hwf) (x_y rfl)
set_option maxRecDepth 100000 in
set_option maxHeartbeats 4000000 in
/-- consumption -/
theorem cv_consumption {l : Launch} (hl : l.stackTraces = false) (d : Nat) (g M : Nat → Nat → Int) (P : List (Nat → Nat → Int)) (S : Option (Nat → Nat → Int)) (T : Nat → Nat → Int) (hxd : o_xd g M P S T) (hwf : o_wf M) : o_Ct l yX11_consumption wX11_consumption (d + 3) o_no [.ref 0] o_N (o_mem g) 0 0 (y_x (.int (o_I (d_all M))) M P S T) := by
  exact o_Ct.wk (ct_X11_consumption hl d g M P S T hxd hwf) (x_y rfl)
set_option maxRecDepth 100000 in
set_option maxHeartbeats 4000000 in
/-- brightNext -/
theorem cv_brightNext {l : Launch} (hl : l.stackTraces = false) (d : Nat) (g M : Nat → Nat → Int) (P : List (Nat → Nat → Int)) (S : Option (Nat → Nat → Int)) (T : Nat → Nat → Int) (hxd : o_xd g M P S T) (hwf : o_wf M) : o_Ct l yX11_brightNext wX11_brightNext (d + 3) o_no [.ref 0] o_N (o_mem g) 0 0 (y_x (.int (o_I (n_bc M (M 0 1).toNat))) M P S T) := by
  exact o_Ct.wk (ct_X11_brightNext hl d g M P S T hxd hwf) (x_y rfl)
set_option maxRecDepth 100000 in
set_option maxHeartbeats 4000000 in
/-- mostBright -/
theorem cv_mostBright {l : Launch} (hl : l.stackTraces = false) (d : Nat) (g M : Nat → Nat → Int) (P : List (Nat → Nat → Int)) (S : Option (Nat → Nat → Int)) (T : Nat → Nat → Int) (hxd : o_xd g M P S T) (hwf : o_wf M) : o_Ct l yX11_mostBright wX11_mostBright (d + 3) o_no [.ref 0] o_N (o_mem g) 0 0 (y_x (.int (o_I (n_oc M 3))) M P S T) := by
  exact o_Ct.wk (ct_X11_mostBright hl d g M P S T hxd hwf) (x_y rfl)
set_option maxRecDepth 100000 in
set_option maxHeartbeats 4000000 in
/-- mostBrightBySums -/
theorem cv_mostBrightBySums {l : Launch} (hl : l.stackTraces = false) (d : Nat) (g M : Nat → Nat → Int) (P : List (Nat → Nat → Int)) (S : Option (Nat → Nat → Int)) (T : Nat → Nat → Int) (hxd : o_xd g M P S T) (hwf : o_wf M) : o_Ct l yX11_mostBrightBySums wX11_mostBrightBySums (d + 3) o_no [.ref 0] o_N (o_mem g) 0 0 (y_x (.int (o_I (n_oc M 3))) M P S T) := by
  exact o_Ct.wk (ct_X11_mostBrightBySums hl d g M P S T hxd hwf) (x_y rfl)
set_option maxRecDepth 100000 in
set_option maxHeartbeats 4000000 in
/-- isConsistent -/
theorem cv_isConsistent {l : Launch} (hl : l.stackTraces = false) (d : Nat) (g M : Nat → Nat → Int) (P : List (Nat → Nat → Int)) (S : Option (Nat → Nat → Int)) (T : Nat → Nat → Int) (hxd : o_xd g M P S T) (hwf : o_wf M) : o_Ct l yX11_isConsistent wX11_isConsistent (d + 6) o_no [.ref 0] o_N (o_mem g) 0 0 (y_x (.int (o_I (1))) M P S T) := by
  exact o_Ct.wk (ct_X11_isConsistent hl d g M P S T hxd hwf) (x_y rfl)
set_option maxRecDepth 100000 in
set_option maxHeartbeats 4000000 in
/-- coins -/
theorem cv_coins {l : Launch} (hl : l.stackTraces = false) (d : Nat) (g M : Nat → Nat → Int) (P : List (Nat → Nat → Int)) (S : Option (Nat → Nat → Int)) (T : Nat → Nat → Int) (hxd : o_xd g M P S T) (hwf : o_wf M) (k : Nat) (hk : (k : Int) < M 0 0) : o_Ct l yX11_coins wX11_coins (d + 3) o_no [.ref 0, .int (o_I (k : Int))] o_N (o_mem g) 1 6 (y_x (.int (o_I (M 1 k))) M P S T) := by
  obtain ⟨⟨hws, hwl, hwq, hwo, hwle, hwrq, hwrd⟩, hwh, hwc, hwe⟩ := id hwf
  have b0 := hws.1
  have b1 := hws.2.1
  have b2 := hwl.1
  have b3 := hwl.2.1
  have b4 := hwq.1
  have b5 := hwq.2.1
  have t := ct_X11_coins hl d g M P S T hxd hwf (k : Int) ⟨by omega, by omega⟩
  rw [Int.toNat_natCast] at t
  exact o_Ct.wk t (x_y (by rw [o_b1 ⟨by omega, hk⟩]; rfl))
set_option maxRecDepth 100000 in
set_option maxHeartbeats 4000000 in
/-- finesPaid -/
theorem cv_finesPaid {l : Launch} (hl : l.stackTraces = false) (d : Nat) (g M : Nat → Nat → Int) (P : List (Nat → Nat → Int)) (S : Option (Nat → Nat → Int)) (T : Nat → Nat → Int) (hxd : o_xd g M P S T) (hwf : o_wf M) (k : Nat) (hk : (k : Int) < M 0 0) : o_Ct l yX11_finesPaid wX11_finesPaid (d + 3) o_no [.ref 0, .int (o_I (k : Int))] o_N (o_mem g) 1 6 (y_x (.int (o_I (M 2 k))) M P S T) := by
  obtain ⟨⟨hws, hwl, hwq, hwo, hwle, hwrq, hwrd⟩, hwh, hwc, hwe⟩ := id hwf
  have b0 := hws.1
  have b1 := hws.2.1
  have b2 := hwl.1
  have b3 := hwl.2.1
  have b4 := hwq.1
  have b5 := hwq.2.1
  have t := ct_X11_finesPaid hl d g M P S T hxd hwf (k : Int) ⟨by omega, by omega⟩
  rw [Int.toNat_natCast] at t
  exact o_Ct.wk t (x_y (by rw [o_b1 ⟨by omega, hk⟩]; rfl))
set_option maxRecDepth 100000 in
set_option maxHeartbeats 4000000 in
/-- darkHours -/
theorem cv_darkHours {l : Launch} (hl : l.stackTraces = false) (d : Nat) (g M : Nat → Nat → Int) (P : List (Nat → Nat → Int)) (S : Option (Nat → Nat → Int)) (T : Nat → Nat → Int) (hxd : o_xd g M P S T) (hwf : o_wf M) (k : Nat) (hk : (k : Int) < M 0 0) : o_Ct l yX11_darkHours wX11_darkHours (d + 3) o_no [.ref 0, .int (o_I (k : Int))] o_N (o_mem g) 1 6 (y_x (.int (o_I (M 3 k))) M P S T) := by
  obtain ⟨⟨hws, hwl, hwq, hwo, hwle, hwrq, hwrd⟩, hwh, hwc, hwe⟩ := id hwf
  have b0 := hws.1
  have b1 := hws.2.1
  have b2 := hwl.1
  have b3 := hwl.2.1
  have b4 := hwq.1
  have b5 := hwq.2.1
  have t := ct_X11_darkHours hl d g M P S T hxd hwf (k : Int) ⟨by omega, by omega⟩
  rw [Int.toNat_natCast] at t
  exact o_Ct.wk t (x_y (by rw [o_b1 ⟨by omega, hk⟩]; rfl))
set_option maxRecDepth 100000 in
set_option maxHeartbeats 4000000 in
/-- level -/
theorem cv_level {l : Launch} (hl : l.stackTraces = false) (d : Nat) (g M : Nat → Nat → Int) (P : List (Nat → Nat → Int)) (S : Option (Nat → Nat → Int)) (T : Nat → Nat → Int) (hxd : o_xd g M P S T) (hwf : o_wf M) (k : Nat) (hk : (k : Int) < M 0 1) : o_Ct l yX11_level wX11_level (d + 3) o_no [.ref 0, .int (o_I (k : Int))] o_N (o_mem g) 1 6 (y_x (.int (o_I (M 4 k))) M P S T) := by
  obtain ⟨⟨hws, hwl, hwq, hwo, hwle, hwrq, hwrd⟩, hwh, hwc, hwe⟩ := id hwf
  have b0 := hws.1
  have b1 := hws.2.1
  have b2 := hwl.1
  have b3 := hwl.2.1
  have b4 := hwq.1
  have b5 := hwq.2.1
  have t := ct_X11_level hl d g M P S T hxd hwf (k : Int) ⟨by omega, by omega⟩
  rw [Int.toNat_natCast] at t
  exact o_Ct.wk t (x_y (by rw [o_b1 ⟨by omega, hk⟩]; rfl))
set_option maxRecDepth 100000 in
set_option maxHeartbeats 4000000 in
/-- brightHours -/
theorem cv_brightHours {l : Launch} (hl : l.stackTraces = false) (d : Nat) (g M : Nat → Nat → Int) (P : List (Nat → Nat → Int)) (S : Option (Nat → Nat → Int)) (T : Nat → Nat → Int) (hxd : o_xd g M P S T) (hwf : o_wf M) (k : Nat) (hk : (k : Int) < M 0 1) : o_Ct l yX11_brightHours wX11_brightHours (d + 3) o_no [.ref 0, .int (o_I (k : Int))] o_N (o_mem g) 1 6 (y_x (.int (o_I (M 7 k))) M P S T) := by
  obtain ⟨⟨hws, hwl, hwq, hwo, hwle, hwrq, hwrd⟩, hwh, hwc, hwe⟩ := id hwf
  have b0 := hws.1
  have b1 := hws.2.1
  have b2 := hwl.1
  have b3 := hwl.2.1
  have b4 := hwq.1
  have b5 := hwq.2.1
  have t := ct_X11_brightHours hl d g M P S T hxd hwf (k : Int) ⟨by omega, by omega⟩
  rw [Int.toNat_natCast] at t
  exact o_Ct.wk t (x_y (by rw [o_b1 ⟨by omega, hk⟩]; rfl))
set_option maxRecDepth 100000 in
set_option maxHeartbeats 4000000 in
/-- requestedLamp -/
theorem cv_requestedLamp {l : Launch} (hl : l.stackTraces = false) (d : Nat) (g M : Nat → Nat → Int) (P : List (Nat → Nat → Int)) (S : Option (Nat → Nat → Int)) (T : Nat → Nat → Int) (hxd : o_xd g M P S T) (hwf : o_wf M) (k : Nat) (hk : (k : Int) < M 0 6) : o_Ct l yX11_requestedLamp wX11_requestedLamp (d + 3) o_no [.ref 0, .int (o_I (k : Int))] o_N (o_mem g) 1 6 (y_x (.int (o_I (M 9 k))) M P S T) := by
  obtain ⟨⟨hws, hwl, hwq, hwo, hwle, hwrq, hwrd⟩, hwh, hwc, hwe⟩ := id hwf
  have b0 := hws.1
  have b1 := hws.2.1
  have b2 := hwl.1
  have b3 := hwl.2.1
  have b4 := hwq.1
  have b5 := hwq.2.1
  have t := ct_X11_requestedLamp hl d g M P S T hxd hwf (k : Int) ⟨by omega, by omega⟩
  rw [Int.toNat_natCast] at t
  exact o_Ct.wk t (x_y (by rw [o_b1 ⟨by omega, hk⟩]; rfl))
set_option maxRecDepth 100000 in
set_option maxHeartbeats 4000000 in
/-- requestedHours -/
theorem cv_requestedHours {l : Launch} (hl : l.stackTraces = false) (d : Nat) (g M : Nat → Nat → Int) (P : List (Nat → Nat → Int)) (S : Option (Nat → Nat → Int)) (T : Nat → Nat → Int) (hxd : o_xd g M P S T) (hwf : o_wf M) (k : Nat) (hk : (k : Int) < M 0 6) : o_Ct l yX11_requestedHours wX11_requestedHours (d + 3) o_no [.ref 0, .int (o_I (k : Int))] o_N (o_mem g) 1 6 (y_x (.int (o_I (M 10 k))) M P S T) := by
  obtain ⟨⟨hws, hwl, hwq, hwo, hwle, hwrq, hwrd⟩, hwh, hwc, hwe⟩ := id hwf
  have b0 := hws.1
  have b1 := hws.2.1
  have b2 := hwl.1
  have b3 := hwl.2.1
  have b4 := hwq.1
  have b5 := hwq.2.1
  have t := ct_X11_requestedHours hl d g M P S T hxd hwf (k : Int) ⟨by omega, by omega⟩
  rw [Int.toNat_natCast] at t
  exact o_Ct.wk t (x_y (by rw [o_b1 ⟨by omega, hk⟩]; rfl))
set_option maxRecDepth 100000 in
set_option maxHeartbeats 4000000 in
/-- wasBright -/
theorem cv_wasBright {l : Launch} (hl : l.stackTraces = false) (d : Nat) (g M : Nat → Nat → Int) (P : List (Nat → Nat → Int)) (S : Option (Nat → Nat → Int)) (T : Nat → Nat → Int) (hxd : o_xd g M P S T) (hwf : o_wf M) (k : Nat) (hk : (k : Int) < M 0 1) : o_Ct l yX11_wasBright wX11_wasBright (d + 3) o_no [.ref 0, .int (o_I (k : Int))] o_N (o_mem g) 1 6 (y_x (.int (o_I (o_b (M 8 k = 1)))) M P S T) := by
  obtain ⟨⟨hws, hwl, hwq, hwo, hwle, hwrq, hwrd⟩, hwh, hwc, hwe⟩ := id hwf
  have b0 := hws.1
  have b1 := hws.2.1
  have b2 := hwl.1
  have b3 := hwl.2.1
  have b4 := hwq.1
  have b5 := hwq.2.1
  have t := ct_X11_wasBright hl d g M P S T hxd hwf (k : Int) ⟨by omega, by omega⟩
  rw [Int.toNat_natCast] at t
  exact o_Ct.wk t (x_y (by rw [o_b1 ⟨by omega, hk⟩]; rfl))
set_option maxRecDepth 100000 in
set_option maxHeartbeats 4000000 in
/-- demand -/
theorem cv_demand {l : Launch} (hl : l.stackTraces = false) (d : Nat) (g M : Nat → Nat → Int) (P : List (Nat → Nat → Int)) (S : Option (Nat → Nat → Int)) (T : Nat → Nat → Int) (hxd : o_xd g M P S T) (hwf : o_wf M) (k : Nat) (hk : (k : Int) < M 0 0) : o_Ct l yX11_demand wX11_demand (d + 4) o_no [.ref 0, .int (o_I (k : Int))] o_N (o_mem g) 1 6 (y_x (.int (o_I (d_of M (k : Int)))) M P S T) := by
  obtain ⟨⟨hws, hwl, hwq, hwo, hwle, hwrq, hwrd⟩, hwh, hwc, hwe⟩ := id hwf
  have b0 := hws.1
  have b1 := hws.2.1
  have b2 := hwl.1
  have b3 := hwl.2.1
  have b4 := hwq.1
  have b5 := hwq.2.1
  have t := ct_X11_demand hl d g M P S T hxd hwf (k : Int) ⟨by omega, by omega⟩
  exact o_Ct.wk t (x_y (by rw [o_b1 ⟨by omega, hk⟩]; rfl))
set_option maxRecDepth 100000 in
set_option maxHeartbeats 4000000 in
/-- isLeased -/
theorem cv_isLeased {l : Launch} (hl : l.stackTraces = false) (d : Nat) (g M : Nat → Nat → Int) (P : List (Nat → Nat → Int)) (S : Option (Nat → Nat → Int)) (T : Nat → Nat → Int) (hxd : o_xd g M P S T) (hwf : o_wf M) (k : Nat) (hk : (k : Int) < M 0 1) : o_Ct l yX11_isLeased wX11_isLeased (d + 4) o_no [.ref 0, .int (o_I (k : Int))] o_N (o_mem g) 1 6 (y_x (.int (o_I (o_b (0 < M 5 k)))) M P S T) := by
  obtain ⟨⟨hws, hwl, hwq, hwo, hwle, hwrq, hwrd⟩, hwh, hwc, hwe⟩ := id hwf
  have b0 := hws.1
  have b1 := hws.2.1
  have b2 := hwl.1
  have b3 := hwl.2.1
  have b4 := hwq.1
  have b5 := hwq.2.1
  have t := ct_X11_isLeased hl d g M P S T hxd hwf (k : Int) ⟨by omega, by omega⟩
  rw [Int.toNat_natCast] at t
  exact o_Ct.wk t (x_y (by rw [o_b1 ⟨by omega, hk⟩]; rfl))
set_option maxRecDepth 100000 in
set_option maxHeartbeats 4000000 in
/-- share -/
theorem cv_share {l : Launch} (hl : l.stackTraces = false) (d : Nat) (g M : Nat → Nat → Int) (P : List (Nat → Nat → Int)) (S : Option (Nat → Nat → Int)) (T : Nat → Nat → Int) (hxd : o_xd g M P S T) (hwf : o_wf M) (k : Nat) (hk : (k : Int) < M 0 0) : o_Ct l yX11_share wX11_share (d + 5) o_no [.ref 0, .int (o_I (k : Int))] o_N (o_mem g) 1 6 (y_x (.int (o_I (d_sh M k))) M P S T) := by
  obtain ⟨⟨hws, hwl, hwq, hwo, hwle, hwrq, hwrd⟩, hwh, hwc, hwe⟩ := id hwf
  have b0 := hws.1
  have b1 := hws.2.1
  have b2 := hwl.1
  have b3 := hwl.2.1
  have b4 := hwq.1
  have b5 := hwq.2.1
  have t := ct_X11_share hl d g M P S T hxd hwf (k : Int) ⟨by omega, by omega⟩
  rw [Int.toNat_natCast] at t
  exact o_Ct.wk t (x_y (by rw [o_b1 ⟨by omega, hk⟩]; rfl))
set_option maxRecDepth 100000 in
set_option maxHeartbeats 4000000 in
/-- lessee -/
theorem cv_lessee {l : Launch} (hl : l.stackTraces = false) (d : Nat) (g M : Nat → Nat → Int) (P : List (Nat → Nat → Int)) (S : Option (Nat → Nat → Int)) (T : Nat → Nat → Int) (hxd : o_xd g M P S T) (hwf : o_wf M) (k : Nat) (hk : (k : Int) < M 0 1) (h5 : 0 < M 5 k) : o_Ct l yX11_lessee wX11_lessee (d + 4) o_no [.ref 0, .int (o_I (k : Int))] o_N (o_mem g) 1 6 (y_x (.int (o_I (M 5 k - 1))) M P S T) := by
  obtain ⟨⟨hws, hwl, hwq, hwo, hwle, hwrq, hwrd⟩, hwh, hwc, hwe⟩ := id hwf
  have b0 := hws.1
  have b1 := hws.2.1
  have b2 := hwl.1
  have b3 := hwl.2.1
  have b4 := hwq.1
  have b5 := hwq.2.1
  have t := ct_X11_lessee hl d g M P S T hxd hwf (k : Int) ⟨by omega, by omega⟩
  rw [Int.toNat_natCast] at t
  exact o_Ct.wk t (x_y (by
    unfold r_unl
    rw [if_neg (fun z => z ⟨by omega, hk⟩), Int.toNat_natCast, if_pos h5]))
set_option maxRecDepth 100000 in
set_option maxHeartbeats 4000000 in
/-- endHour -/
theorem cv_endHour {l : Launch} (hl : l.stackTraces = false) (d : Nat) (g M : Nat → Nat → Int) (P : List (Nat → Nat → Int)) (S : Option (Nat → Nat → Int)) (T : Nat → Nat → Int) (hxd : o_xd g M P S T) (hwf : o_wf M) (k : Nat) (hk : (k : Int) < M 0 1) (h5 : 0 < M 5 k) : o_Ct l yX11_endHour wX11_endHour (d + 4) o_no [.ref 0, .int (o_I (k : Int))] o_N (o_mem g) 1 6 (y_x (.int (o_I (M 6 k))) M P S T) := by
  obtain ⟨⟨hws, hwl, hwq, hwo, hwle, hwrq, hwrd⟩, hwh, hwc, hwe⟩ := id hwf
  have b0 := hws.1
  have b1 := hws.2.1
  have b2 := hwl.1
  have b3 := hwl.2.1
  have b4 := hwq.1
  have b5 := hwq.2.1
  have t := ct_X11_endHour hl d g M P S T hxd hwf (k : Int) ⟨by omega, by omega⟩
  rw [Int.toNat_natCast] at t
  exact o_Ct.wk t (x_y (by
    unfold r_unl
    rw [if_neg (fun z => z ⟨by omega, hk⟩), Int.toNat_natCast, if_pos h5]))
set_option maxRecDepth 100000 in
set_option maxHeartbeats 4000000 in
/-- meanCoins -/
theorem cv_meanCoins {l : Launch} (hl : l.stackTraces = false) (d : Nat) (g M : Nat → Nat → Int) (P : List (Nat → Nat → Int)) (S : Option (Nat → Nat → Int)) (T : Nat → Nat → Int) (hxd : o_xd g M P S T) (hwf : o_wf M) (h0 : 0 < M 0 0) : o_Ct l yX11_meanCoins wX11_meanCoins (d + 2) o_no [.ref 0] o_N (o_mem g) 1 6 (y_x (.double (f_mean M)) M P S T) := by
  exact o_Ct.wk (ct_X11_meanCoins hl d g M P S T hxd hwf) (x_y (by rw [o_b1 h0]; rfl))
set_option maxRecDepth 100000 in
set_option maxHeartbeats 4000000 in
/-- leasedShare -/
theorem cv_leasedShare {l : Launch} (hl : l.stackTraces = false) (d : Nat) (g M : Nat → Nat → Int) (P : List (Nat → Nat → Int)) (S : Option (Nat → Nat → Int)) (T : Nat → Nat → Int) (hxd : o_xd g M P S T) (hwf : o_wf M) (h0 : 0 < M 0 1) : o_Ct l yX11_leasedShare wX11_leasedShare (d + 3) o_no [.ref 0] o_N (o_mem g) 1 6 (y_x (.float (f_shr M)) M P S T) := by
  exact o_Ct.wk (ct_X11_leasedShare hl d g M P S T hxd hwf) (x_y (by rw [o_b1 h0]; rfl))
