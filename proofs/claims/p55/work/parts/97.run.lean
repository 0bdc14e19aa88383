/-! the law changes the office -/
section WOK
variable {n : Nat} {M : Nat → Nat → Int}
theorem wo_ship (h : w_ok n M) (hr : r_ship M = 0) : w_ok (n + 1) (m_ship M) := ⟨wf_ship h.1 hr, by rw [show m_ship M 0 3 = M 0 3 by simp [m_ship, o_e]]; have := h.2; omega⟩
theorem wo_lamp {v : Int} (h : w_ok n M) (hr : r_lamp M v = 0) : w_ok (n + 1) (m_lamp M v) := ⟨wf_lamp h.1 hr, by rw [show m_lamp M v 0 3 = M 0 3 by simp [m_lamp, o_e]]; have := h.2; omega⟩
theorem wo_oil {v : Int} (h : w_ok n M) (hr : r_oil M v = 0) : w_ok (n + 1) (m_oil M v) := ⟨wf_oil h.1 hr, by rw [show m_oil M v 0 3 = M 0 3 by simp [m_oil, o_e]]; have := h.2; omega⟩
theorem wo_lease {s x t : Int} (h : w_ok n M) (hr : r_lease M s x t = 0) : w_ok (n + 1) (m_lease M s.toNat x.toNat t) := ⟨wf_lease h.1 hr, by rw [show m_lease M s.toNat x.toNat t 0 3 = M 0 3 by simp [m_lease, m_pay, o_e]]; have := h.2; omega⟩
theorem wo_req {x t : Int} (h : w_ok n M) (hr : r_req M x t = 0) : w_ok (n + 1) (m_req M x t) := ⟨(wf_req h.1 hr).1, by rw [show m_req M x t 0 3 = M 0 3 by simp [m_req, o_e]]; have := h.2; omega⟩
theorem wo_unl {x : Int} (h : w_ok n M) (hr : r_unl M x = 0) : w_ok (n + 1) (m_free M x.toNat) := by
  refine ⟨wf_free h.1 hr, ?_⟩
  have hn : 0 ≤ x ∧ x < M 0 1 := by unfold r_unl at hr; split at hr <;> (try split at hr) <;> omega
  have := (ke_free h.1.1 x.toNat (by omega)).2.2.2.1
  have := h.2
  omega
theorem wo_wait {t : Int} (h : w_ok n M) (hn9 : n ≤ 512) (hr : r_wait t = 0) : w_ok (n + 1) (m_pass M t.toNat) := by
  have hn : 1 ≤ t ∧ t ≤ 48 := by unfold r_wait at hr; split at hr <;> omega
  have hh := w_hh h hn9
  have q := wf_pass h.1 t.toNat (by omega)
  exact ⟨q.1, by rw [q.2]; have := h.2; omega⟩
end WOK
section WF0
variable {n : Nat} {M T : Nat → Nat → Int} {P : List (Nat → Nat → Int)} {S : Option (Nat → Nat → Int)}
theorem w_feed0 {c : Int} (h : w_in n M P S T) (hc : 0 ≤ c ∧ c < 65536) (hT : T 0 0 < 60) : w_in n M P S (t_feed T c) := by
  obtain ⟨k0, k1, k2, k3, k4, k5⟩ := h.2.2.2.1
  have e0 : t_feed T c 0 0 = T 0 0 + 1 := by simp [t_feed, o_e]
  have e1 : ∀ j : Nat, t_feed T c 0 (j + 1) = T 0 (j + 1) := fun j => by simp [t_feed, o_e]
  have e2 : ∀ j : Nat, t_feed T c 1 j = if j = (T 0 0).toNat then c else T 1 j := fun j => by simp [t_feed, o_e]
  refine w_tk h ⟨by rw [e0]; omega, by rw [e0]; omega, fun j hj => ?_, by rw [e1 1]; exact k3, by rw [e1 2]; exact k4, by rw [e1 3]; exact k5⟩ (e1 0) (by funext j; simp [t_feed, o_e])
  rw [e0] at hj
  rw [e2]
  by_cases q : j = (T 0 0).toNat
  · rw [if_pos q]; exact hc
  · rw [if_neg q]; exact k2 j (by omega)
end WF0
theorem ks_hour {M : Nat → Nat → Int} (h : o_wf M) (hh : M 0 3 < 1000000) : m_hour M 0 0 = M 0 0 ∧ m_hour M 0 1 = M 0 1 := by
  obtain ⟨p1, p2, p3, -⟩ := ke_m_pre h.1 (by omega)
  have hk : o_ke (m_pre M) (m_hour M) := ke_ends p1 _ (Nat.le_refl _)
  exact ⟨hk.2.1.trans p2, hk.2.2.1.trans p3⟩
theorem ks_pass {M : Nat → Nat → Int} (h : o_wf M) : ∀ n : Nat, M 0 3 + n ≤ 1000000 → m_pass M n 0 0 = M 0 0 ∧ m_pass M n 0 1 = M 0 1
  | 0 => fun _ => ⟨rfl, rfl⟩
  | n + 1 => fun hh => by
    have t := ks_pass h n (by omega)
    have w := wf_pass h n (by omega)
    have q := ks_hour w.1 (by rw [w.2]; omega)
    exact ⟨(show m_hour (m_pass M n) 0 0 = _ from q.1.trans t.1), (show m_hour (m_pass M n) 0 1 = _ from q.2.trans t.2)⟩
theorem n_end_b (M : Nat → Nat → Int) : ∀ n : Nat, 0 ≤ n_end M n ∧ n_end M n ≤ n
  | 0 => ⟨Int.le_refl 0, Int.le_refl 0⟩
  | n + 1 => by
    have t := n_end_b M n
    unfold n_end
    rcases o_b01 (0 < (o_fd m_end1 M n) 5 n ∧ (o_fd m_end1 M n) 6 n = (o_fd m_end1 M n) 0 3) with q | q <;> rw [q] <;> omega
theorem n_pass_b {M : Nat → Nat → Int} (h : o_wf M) : ∀ n : Nat, M 0 3 + n ≤ 1000000 → 0 ≤ n_pass M n ∧ n_pass M n ≤ 8 * n
  | 0 => fun _ => ⟨Int.le_refl 0, Int.le_refl 0⟩
  | n + 1 => fun hh => by
    have t := n_pass_b h n (by omega)
    have w := wf_pass h n (by omega)
    have hw8 := h.1.2.1.2.1
    have hw7 := h.1.2.1.1
    obtain ⟨-, -, p3, -⟩ := ke_m_pre w.1.1 (by rw [w.2]; omega)
    have q := n_end_b (m_pre (m_pass M n)) (m_pre (m_pass M n) 0 1).toNat
    have s := (ks_pass h n (by omega)).2
    show 0 ≤ n_pass M n + n_hour (m_pass M n) ∧ n_pass M n + n_hour (m_pass M n) ≤ _
    unfold n_hour
    omega
/-- what a change leaves: done, or refused with nothing changed -/
def u_F (N : Nat) (h : Nat → o_C) (n : Nat) (M : Nat → Nat → Int) (P : List (Nat → Nat → Int)) (S : Option (Nat → Nat → Int)) (X : Int → (Nat → Nat → Int) → Prop) (z : Int) (g' M' : Nat → Nat → Int) (P' : List (Nat → Nat → Int)) (T' : Nat → Nat → Int) (h' : Nat → o_C) : Prop :=
  o_xd g' M' P' S T' ∧ w_in (n + 1) M' P' S T' ∧ t_H N g' h' ∧ (∀ k, 192 ≤ k → k < N → h' k = h k) ∧ (-20 ≤ z ∧ z ≤ 2000000) ∧ ((z < 0 ∧ M' = M ∧ P' = P) ∨ (0 ≤ z ∧ P' = h_push P M)) ∧ X z M'
def u_P (N : Nat) (h : Nat → o_C) (n : Nat) (M : Nat → Nat → Int) (P : List (Nat → Nat → Int)) (S : Option (Nat → Nat → Int)) (X : Int → (Nat → Nat → Int) → Prop) : o_P := fun o n' h' => n' = N ∧ ∃ (z : Int) (g' M' : Nat → Nat → Int) (P' : List (Nat → Nat → Int)) (T' : Nat → Nat → Int), o = .inl (some (.int (o_I z))) ∧ u_F N h n M P S X z g' M' P' T' h'
abbrev u_al : Nat → Prop := fun k => o_no k ∧ k < 192
theorem u_F.x {N n : Nat} {h h' : Nat → o_C} {M g' M' T' : Nat → Nat → Int} {P P' : List (Nat → Nat → Int)} {S : Option (Nat → Nat → Int)} {X X' : Int → (Nat → Nat → Int) → Prop} {z : Int} (u : u_F N h n M P S X z g' M' P' T' h') (hX : X z M' → X' z M') : u_F N h n M P S X' z g' M' P' T' h' := ⟨u.1, u.2.1, u.2.2.1, u.2.2.2.1, u.2.2.2.2.1, u.2.2.2.2.2.1, hX u.2.2.2.2.2.2⟩
theorem u_of {l : Launch} {y : MethodName} {cw : Cond} {dy N n : Nat} {av : List Value} {g M M1 T : Nat → Nat → Int} {P : List (Nat → Nat → Int)} {S : Option (Nat → Nat → Int)} {k v : Int} {cs : List Int} {h : Nat → o_C} (hC : o_Ct l y cw dy o_no av o_N (o_mem g) 1 6 (y_x (.int (o_I (h_c k v cs))) (if k = 0 then M1 else M) (if k = 0 then h_push P M else P) S T)) (hH : t_H N g h) (hw : w_in n M P S T) (hM : k = 0 → w_ok (n + 1) M1) (hv : k = 0 → 0 ≤ v ∧ v ≤ 2000000) (hcs : k ≠ 0 → -20 ≤ cs.getD (k - 1).toNat 0 ∧ cs.getD (k - 1).toNat 0 < 0) : o_Ct l y cw dy u_al av N h 1 6 (u_P N h n M P S (fun z M' => (k = 0 ∧ 0 ≤ z ∧ z = v ∧ M' = M1) ∨ (k ≠ 0 ∧ M' = M ∧ z = cs.getD (k - 1).toNat 0))) := by
  refine o_Ct.wk (tx_fr hC hH y_int (fun _ z => z.elim)) (fun o n' h' q => ?_)
  obtain ⟨rfl, rfl, g', hx, hH', e⟩ := q
  refine ⟨rfl, h_c k v cs, g', _, _, T, rfl, hx, hw.chg hM, hH', fun q a _ => e q a, ?_⟩
  by_cases hk : k = 0
  · have := hv hk
    unfold h_c
    rw [if_pos hk, if_pos hk, if_pos hk]
    exact ⟨⟨by omega, by omega⟩, Or.inr ⟨by omega, rfl⟩, Or.inl ⟨hk, this.1, rfl, rfl⟩⟩
  · have := hcs hk
    unfold h_c
    rw [if_neg hk, if_neg hk, if_neg hk]
    exact ⟨⟨by omega, by omega⟩, Or.inl ⟨by omega, rfl, rfl⟩, Or.inr ⟨hk, rfl, rfl⟩⟩
section UQ
variable {l : Launch} {Mt : o_M} {d : Nat} {al : Nat → Prop} {post : o_P} {pc : Nat} {ls : List (Nat × Value)} {st rest : List Value} {mc ms N n : Nat} {M : Nat → Nat → Int} {h : Nat → o_C} {P : List (Nat → Nat → Int)} {S : Option (Nat → Nat → Int)} {X : Int → (Nat → Nat → Int) → Prop}
theorem u_q {y : MethodName} {yb : ByteArray} {yL dy mcy msy index : Nat} {yr : Option FieldType} {yh : List (Nat × Nat × Nat × Nat)} (As : List Value) (hC : o_Ct l y (.codeWith y yb yL yr yh) dy u_al As N h mcy msy (u_P N h n M P S X)) (hd : decode Mt.2.1 pc = .ok (.invokestatic index, 3)) (hw : Cond.methodLink Mt.1 index y ∈ o_gW) (hyw : o_ys y (.codeWith y yb yL yr yh)) (hyd : o_yd y As.length = true) (hyL : yL ≤ 21)
    (hdy : dy < d) (hm : mcy ≤ mc) (hs : msy ≤ ms) (hst : st = As.reverse ++ rest) (hcat : (rest.map fun v => v.category).sum ≤ 8) (k : ∀ z g' M' P' T' h', u_F N h n M P S X z g' M' P' T' h' → o_V l Mt d al post (pc + 3) ls (.int (o_I z) :: rest) N h' (mc - mcy) (ms - msy)) : o_V l Mt d al post pc ls st N h mc ms :=
  o_callSW As hC (fun E n' h' q => by obtain ⟨-, z, g', M', P', T', q, -⟩ := q; cases q) hd hw hyw hyd hyL hdy hm hs hst hcat (fun _ z => z.1.elim) (fun _ z => z.1.elim) (Or.inl fun _ z => z.1) (fun v9 n9 h9 q9 => by obtain ⟨rfl, z, g', M', P', T', q, u⟩ := q9; cases q; exact k z g' M' P' T' h9 u)
theorem u_s {y : MethodName} {yb : ByteArray} {yL dy mcy msy index : Nat} {yr : Option FieldType} (As : List Value) (hC : o_Ct l y (.code y yb yL yr) dy u_al As N h mcy msy (u_P N h n M P S X)) (hd : decode Mt.2.1 pc = .ok (.invokestatic index, 3)) (hw : Cond.methodLink Mt.1 index y ∈ o_gW) (hyw : o_ys y (.code y yb yL yr)) (hyd : o_yd y As.length = true) (hyL : yL ≤ 21)
    (hdy : dy < d) (hm : mcy ≤ mc) (hs : msy ≤ ms) (hst : st = As.reverse ++ rest) (hcat : (rest.map fun v => v.category).sum ≤ 8) (k : ∀ z g' M' P' T' h', u_F N h n M P S X z g' M' P' T' h' → o_V l Mt d al post (pc + 3) ls (.int (o_I z) :: rest) N h' (mc - mcy) (ms - msy)) : o_V l Mt d al post pc ls st N h mc ms :=
  o_callS As hC hd hw hyw hyd hyL hdy hm hs hst hcat (fun _ z => z.1.elim) (fun _ z => z.1.elim) (Or.inl fun _ z => z.1) (fun v9 n9 h9 q9 => by obtain ⟨rfl, z, g', M', P', T', q, u⟩ := q9; cases q; exact k z g' M' P' T' h9 u) (fun E n9 h9 q9 => by obtain ⟨-, z, g', M', P', T', q, -⟩ := q9; cases q)
end UQ
set_option maxRecDepth 100000 in
set_option maxHeartbeats 4000000 in
theorem cu_addShip {l : Launch} (hl : l.stackTraces = false) (d N n : Nat) (g M : Nat → Nat → Int) (P : List (Nat → Nat → Int)) (S : Option (Nat → Nat → Int)) (T : Nat → Nat → Int) (h : Nat → o_C) (hx : o_xd g M P S T) (hw : w_in n M P S T) (hn : n ≤ 512) (hH : t_H N g h) : o_Ct l yL_addShip wL_addShip (d + 5) u_al [.ref 0] N h 1 6 (u_P N h n M P S (fun z M' => (r_ship M = 0 ∧ 0 ≤ z ∧ z = M 0 0 ∧ M' = m_ship M) ∨ (r_ship M ≠ 0 ∧ M' = M ∧ z = [-1].getD (r_ship M - 1).toNat 0))) := by
  have hh := w_hh hw.1 hn
  have b1 := hw.1.1.1.1.1
  have b1' := hw.1.1.1.1.2.1
  have b2 := hw.1.1.1.2.1.1
  have b2' := hw.1.1.1.2.1.2.1
  have b3 := hw.1.1.1.2.1.2.2.1
  have b6 := hw.1.1.1.2.2.1.1
  have b6' := hw.1.1.1.2.2.1.2.1
  have b8 := hw.1.1.1.2.2.2.1
  refine u_of (ct_L_addShip hl (d + 4) g _ _ S T _ _ (ct_X11_addShip hl d g M P S T hx hw.1.1)) hH hw (fun hr => wo_ship hw.1 hr) (fun hr => ⟨b1, by omega⟩) ?_
  unfold r_ship
  (repeat' split) <;> first | (intro q; exact absurd rfl q) | (intro _; decide)
set_option maxRecDepth 100000 in
set_option maxHeartbeats 4000000 in
theorem cu_addLamp {l : Launch} (hl : l.stackTraces = false) (d N n : Nat) (g M : Nat → Nat → Int) (P : List (Nat → Nat → Int)) (S : Option (Nat → Nat → Int)) (T : Nat → Nat → Int) (h : Nat → o_C) (hx : o_xd g M P S T) (hw : w_in n M P S T) (hn : n ≤ 512) (hH : t_H N g h) (v : Int) (rv : o_R v) : o_Ct l yL_addLamp wL_addLamp (d + 5) u_al [.ref 0, .int (o_I v)] N h 1 6 (u_P N h n M P S (fun z M' => (r_lamp M v = 0 ∧ 0 ≤ z ∧ z = M 0 1 ∧ M' = m_lamp M v) ∨ (r_lamp M v ≠ 0 ∧ M' = M ∧ z = [-1, -2].getD (r_lamp M v - 1).toNat 0))) := by
  have hh := w_hh hw.1 hn
  have b1 := hw.1.1.1.1.1
  have b1' := hw.1.1.1.1.2.1
  have b2 := hw.1.1.1.2.1.1
  have b2' := hw.1.1.1.2.1.2.1
  have b3 := hw.1.1.1.2.1.2.2.1
  have b6 := hw.1.1.1.2.2.1.1
  have b6' := hw.1.1.1.2.2.1.2.1
  have b8 := hw.1.1.1.2.2.2.1
  refine u_of (ct_L_addLamp hl (d + 4) g _ _ S T _ _ v (ct_X11_addLamp hl d g M P S T hx hw.1.1 v rv)) hH hw (fun hr => wo_lamp hw.1 hr) (fun hr => ⟨b2, by omega⟩) ?_
  unfold r_lamp
  (repeat' split) <;> first | (intro q; exact absurd rfl q) | (intro _; decide)
set_option maxRecDepth 100000 in
set_option maxHeartbeats 4000000 in
theorem cu_addOil {l : Launch} (hl : l.stackTraces = false) (d N n : Nat) (g M : Nat → Nat → Int) (P : List (Nat → Nat → Int)) (S : Option (Nat → Nat → Int)) (T : Nat → Nat → Int) (h : Nat → o_C) (hx : o_xd g M P S T) (hw : w_in n M P S T) (hn : n ≤ 512) (hH : t_H N g h) (u : Int) (ru : o_R u) : o_Ct l yL_addOil wL_addOil (d + 5) u_al [.ref 0, .int (o_I u)] N h 1 6 (u_P N h n M P S (fun z M' => (r_oil M u = 0 ∧ 0 ≤ z ∧ z = M 0 2 + u ∧ M' = m_oil M u) ∨ (r_oil M u ≠ 0 ∧ M' = M ∧ z = [-1, -2].getD (r_oil M u - 1).toNat 0))) := by
  have hh := w_hh hw.1 hn
  have b1 := hw.1.1.1.1.1
  have b1' := hw.1.1.1.1.2.1
  have b2 := hw.1.1.1.2.1.1
  have b2' := hw.1.1.1.2.1.2.1
  have b3 := hw.1.1.1.2.1.2.2.1
  have b6 := hw.1.1.1.2.2.1.1
  have b6' := hw.1.1.1.2.2.1.2.1
  have b8 := hw.1.1.1.2.2.2.1
  refine u_of (ct_L_addOil hl (d + 4) g _ _ S T _ _ u (ct_X11_addOil hl d g M P S T hx hw.1.1 u ru)) hH hw (fun hr => wo_oil hw.1 hr) (fun hr => (by unfold r_oil at hr; (repeat' split at hr) <;> exact ⟨by omega, by omega⟩)) ?_
  unfold r_oil
  (repeat' split) <;> first | (intro q; exact absurd rfl q) | (intro _; decide)
set_option maxRecDepth 100000 in
set_option maxHeartbeats 4000000 in
theorem cu_lease {l : Launch} (hl : l.stackTraces = false) (d N n : Nat) (g M : Nat → Nat → Int) (P : List (Nat → Nat → Int)) (S : Option (Nat → Nat → Int)) (T : Nat → Nat → Int) (h : Nat → o_C) (hx : o_xd g M P S T) (hw : w_in n M P S T) (hn : n ≤ 512) (hH : t_H N g h) (s : Int) (rs : o_R s) (x : Int) (rx : o_R x) (t : Int) (rt : o_R t) : o_Ct l yL_lease wL_lease (d + 6) u_al [.ref 0, .int (o_I s), .int (o_I x), .int (o_I t)] N h 1 6 (u_P N h n M P S (fun z M' => (r_lease M s x t = 0 ∧ 0 ≤ z ∧ z = M 0 3 + t ∧ M' = m_lease M s.toNat x.toNat t) ∨ (r_lease M s x t ≠ 0 ∧ M' = M ∧ z = [-1, -2, -3, -4].getD (r_lease M s x t - 1).toNat 0))) := by
  have hh := w_hh hw.1 hn
  have b1 := hw.1.1.1.1.1
  have b1' := hw.1.1.1.1.2.1
  have b2 := hw.1.1.1.2.1.1
  have b2' := hw.1.1.1.2.1.2.1
  have b3 := hw.1.1.1.2.1.2.2.1
  have b6 := hw.1.1.1.2.2.1.1
  have b6' := hw.1.1.1.2.2.1.2.1
  have b8 := hw.1.1.1.2.2.2.1
  refine u_of (ct_L_lease hl (d + 5) g _ _ S T _ _ s x t (ct_X11_lease hl d g M P S T hx hw.1.1 s rs x rx t rt)) hH hw (fun hr => wo_lease hw.1 hr) (fun hr => (by unfold r_lease at hr; (repeat' split at hr) <;> exact ⟨by omega, by omega⟩)) ?_
  unfold r_lease
  (repeat' split) <;> first | (intro q; exact absurd rfl q) | (intro _; decide)
set_option maxRecDepth 100000 in
set_option maxHeartbeats 4000000 in
theorem cu_renew {l : Launch} (hl : l.stackTraces = false) (d N n : Nat) (g M : Nat → Nat → Int) (P : List (Nat → Nat → Int)) (S : Option (Nat → Nat → Int)) (T : Nat → Nat → Int) (h : Nat → o_C) (hx : o_xd g M P S T) (hw : w_in n M P S T) (hn : n ≤ 512) (hH : t_H N g h) (x : Int) (rx : o_R x) (t : Int) (rt : o_R t) : o_Ct l yL_renew wL_renew (d + 5) u_al [.ref 0, .int (o_I x), .int (o_I t)] N h 1 6 (u_P N h n M P S (fun z M' => (r_req M x t = 0 ∧ 0 ≤ z ∧ z = M 0 6 ∧ M' = m_req M x t) ∨ (r_req M x t ≠ 0 ∧ M' = M ∧ z = [-1, -2, -3, -4].getD (r_req M x t - 1).toNat 0))) := by
  have hh := w_hh hw.1 hn
  have b1 := hw.1.1.1.1.1
  have b1' := hw.1.1.1.1.2.1
  have b2 := hw.1.1.1.2.1.1
  have b2' := hw.1.1.1.2.1.2.1
  have b3 := hw.1.1.1.2.1.2.2.1
  have b6 := hw.1.1.1.2.2.1.1
  have b6' := hw.1.1.1.2.2.1.2.1
  have b8 := hw.1.1.1.2.2.2.1
  refine u_of (ct_L_renew hl (d + 4) g _ _ S T _ _ x t (ct_X11_requestRenewal hl d g M P S T hx hw.1.1 x rx t rt)) hH hw (fun hr => wo_req hw.1 hr) (fun hr => ⟨b6, by omega⟩) ?_
  unfold r_req
  (repeat' split) <;> first | (intro q; exact absurd rfl q) | (intro _; decide)
set_option maxRecDepth 100000 in
set_option maxHeartbeats 4000000 in
theorem cu_giveUp {l : Launch} (hl : l.stackTraces = false) (d N n : Nat) (g M : Nat → Nat → Int) (P : List (Nat → Nat → Int)) (S : Option (Nat → Nat → Int)) (T : Nat → Nat → Int) (h : Nat → o_C) (hx : o_xd g M P S T) (hw : w_in n M P S T) (hn : n ≤ 512) (hH : t_H N g h) (x : Int) (rx : o_R x) : o_Ct l yL_giveUp wL_giveUp (d + 5) u_al [.ref 0, .int (o_I x)] N h 1 6 (u_P N h n M P S (fun z M' => (r_unl M x = 0 ∧ 0 ≤ z ∧ z = M 6 x.toNat - M 0 3 ∧ M' = m_free M x.toNat) ∨ (r_unl M x ≠ 0 ∧ M' = M ∧ z = [-1, -2].getD (r_unl M x - 1).toNat 0))) := by
  have hh := w_hh hw.1 hn
  have b1 := hw.1.1.1.1.1
  have b1' := hw.1.1.1.1.2.1
  have b2 := hw.1.1.1.2.1.1
  have b2' := hw.1.1.1.2.1.2.1
  have b3 := hw.1.1.1.2.1.2.2.1
  have b6 := hw.1.1.1.2.2.1.1
  have b6' := hw.1.1.1.2.2.1.2.1
  have b8 := hw.1.1.1.2.2.2.1
  refine u_of (ct_L_giveUp hl (d + 4) g _ _ S T _ _ x (ct_X11_giveUp hl d g M P S T hx hw.1.1 x rx)) hH hw (fun hr => wo_unl hw.1 hr) (fun hr => (by
    unfold r_unl at hr
    split at hr
    · cases hr
    · rename_i q
      have q : 0 ≤ x ∧ x < M 0 1 := Classical.byContradiction q
      split at hr
      · rename_i q5
        have e9 := hw.1.1.2.2.2 x.toNat (by omega) q5
        have e8 := hw.1.1.1.2.1.2.2.2.2 x.toNat (by omega)
        exact ⟨by omega, by omega⟩
      · cases hr)) ?_
  unfold r_unl
  (repeat' split) <;> first | (intro q; exact absurd rfl q) | (intro _; decide)
set_option maxRecDepth 100000 in
set_option maxHeartbeats 4000000 in
theorem cu_pass {l : Launch} (hl : l.stackTraces = false) (d N n : Nat) (g M : Nat → Nat → Int) (P : List (Nat → Nat → Int)) (S : Option (Nat → Nat → Int)) (T : Nat → Nat → Int) (h : Nat → o_C) (hx : o_xd g M P S T) (hw : w_in n M P S T) (hn : n ≤ 512) (hH : t_H N g h) (t : Int) (rt : o_R t) : o_Ct l yL_pass wL_pass (d + 7) u_al [.ref 0, .int (o_I t)] N h 1 6 (u_P N h n M P S (fun z M' => (r_wait t = 0 ∧ 0 ≤ z ∧ z = n_pass M t.toNat ∧ M' = m_pass M t.toNat) ∨ (r_wait t ≠ 0 ∧ M' = M ∧ z = [-1].getD (r_wait t - 1).toNat 0))) := by
  have hh := w_hh hw.1 hn
  have b1 := hw.1.1.1.1.1
  have b1' := hw.1.1.1.1.2.1
  have b2 := hw.1.1.1.2.1.1
  have b2' := hw.1.1.1.2.1.2.1
  have b3 := hw.1.1.1.2.1.2.2.1
  have b6 := hw.1.1.1.2.2.1.1
  have b6' := hw.1.1.1.2.2.1.2.1
  have b8 := hw.1.1.1.2.2.2.1
  refine u_of (ct_L_pass hl (d + 6) g _ _ S T _ _ t (ct_X11_passHours hl d g M P S T hx hw.1.1 t rt (by omega))) hH hw (fun hr => wo_wait hw.1 hn hr) (fun hr => (by
    unfold r_wait at hr
    split at hr
    · cases hr
    · have q := n_pass_b hw.1.1 t.toNat (by omega)
      exact ⟨by omega, by omega⟩)) ?_
  unfold r_wait
  (repeat' split) <;> first | (intro q; exact absurd rfl q) | (intro _; decide)
set_option maxRecDepth 100000 in
set_option maxHeartbeats 4000000 in
theorem ct_L_run {l : Launch} (hl : l.stackTraces = false) (d N n : Nat) (g M : Nat → Nat → Int) (P : List (Nat → Nat → Int)) (S : Option (Nat → Nat → Int)) (T : Nat → Nat → Int) (h : Nat → o_C) (hx : o_xd g M P S T) (hw : w_in n M P S T) (hn : n ≤ 512) (hH : t_H N g h) (r : Nat) (L : List Int) (hS : t_S N h r L) : o_Ct l yL_run wL_run (d + 12) u_al [.ref 0, .ref r] N h 150 900 (u_P N h n M P S (fun _ _ => True)) := by
  refine o_Ct.ofV hl mL_run (by decide +kernel) rfl rfl rfl (Nat.le_of_ble_eq_true rfl) ?_
  have hb9 := hS.2.2.1
  have hch9 : ∀ j : Nat, j < L.length → 0 ≤ L.getD j 0 ∧ L.getD j 0 < 128 := fun j hj => hS.2.1 _ (o_getD_mem hj)
  refine o_iconst dL_run_0 ?_
  refine o_istore_n dL_run_1 (by decide) ?_
  have key := o_lp (fun k => ∀ (g9 T9 : Nat → Nat → Int) (h9 : Nat → o_C) (mc ms : Nat), o_xd g9 M P S T9 → w_in n M P S T9 → t_H N g9 h9 → (∀ q, 192 ≤ q → h9 q = h q) → (L.length - k) + 2 ≤ mc → 6 * (L.length - k) + 12 ≤ ms → o_V l mL_run (d + 12) u_al (u_P N h n M P S (fun _ _ => True)) 2 [(0, .ref 0), (1, .ref r), (2, .int (o_I (k : Int)))] [] N h9 mc ms) L.length (fun k hk ih g9 T9 h9 mc ms hx hw hH he h1 h2 => by
    have hS9 : t_S N h9 r L := hS.mv (Nat.le_refl _) (fun q hq _ => he q (by
      have := hS.1
      rcases hq with rfl | rfl
      · exact this
      · unfold t_w; split <;> omega))
    have htk := hw.2.2.2.1
    have t0 := htk.1
    have t1 := htk.2.1
    refine o_iload_n dL_run_2 rfl ?_
    refine o_aload_n dL_run_3 rfl ?_
    refine tx_len hl hS9 dL_run_4 ml_L_127 (Nat.le_of_ble_eq_true rfl) (by omega) ?_
    refine o_icmp_ge (tgt := 34) dL_run_7 (by decide) ⟨by omega, by omega⟩ ⟨by omega, by omega⟩ (fun c_7 => ?_) (fun c_7 => ?_)
    · refine o_aload_n dL_run_34 rfl ?_
      refine tx_q [.ref 0] (ct_L_runs hl 10 g9 _ _ S _ _ _ (ct_X11_runCommands hl 0 g9 M P S T9 hx hw.1.1 htk (w_hh hw.1 hn))) hH y_int dL_run_35 ml_L_140 ys_L_runs rfl (by decide) (by omega) (by omega) (by omega) rfl (Nat.le_of_ble_eq_true rfl) (fun g8 h8 hx8 hH8 he8 => ?_)
      refine o_ret1 dL_run_38 trivial ?_
      refine ⟨rfl, _, g8, _, _, _, rfl, hx8, w_run hw hn, hH8, fun q a _ => (he8 q a).trans (he q a), ?_⟩
      have hlen9 : (x_v T9 M) ≤ 2000000 ∧ 0 ≤ x_v T9 M := by
        unfold x_v
        split
        · rename_i q
          have hok : (x_r T9).1 = true := by
            unfold x_k at q
            by_cases w : (x_r T9).1 = true
            · exact w
            · rw [if_neg w] at q; exact absurd q (by decide)
          have := (p_all_ok (t := T9 1) (n := (T9 0 0).toNat) 12 0 (Nat.zero_le _) hok).2
          have : (x_r T9).2.2.length ≤ 12 := by
            show (p_all (T9 1) (T9 0 0).toNat 12 0).2.2.length ≤ 12
            omega
          omega
        · omega
      have hk9 : x_k T9 M = 0 ∨ x_k T9 M = 1 ∨ x_k T9 M = 2 := by
        unfold x_k
        split
        · split <;> omega
        · omega
      unfold x_M x_P
      rcases hk9 with q | q | q
      · rw [q, if_pos rfl, if_pos rfl]
        unfold h_c
        rw [if_pos rfl]
        exact ⟨⟨by omega, by omega⟩, Or.inr ⟨by omega, rfl⟩, trivial⟩
      · rw [q, if_neg (by decide), if_neg (by decide), show h_c 1 (x_v T9 M) [-1, -2] = -1 from rfl]
        exact ⟨⟨by decide, by decide⟩, Or.inl ⟨by decide, rfl, rfl⟩, trivial⟩
      · rw [q, if_neg (by decide), if_neg (by decide), show h_c 2 (x_v T9 M) [-1, -2] = -2 from rfl]
        exact ⟨⟨by decide, by decide⟩, Or.inl ⟨by decide, rfl, rfl⟩, trivial⟩
    · have hk9 : k < L.length := by omega
      have t9 := hch9 k hk9
      refine o_aload_n dL_run_10 rfl ?_
      refine o_aload_n dL_run_11 rfl ?_
      refine o_iload_n dL_run_12 rfl ?_
      refine tx_chr hl hS9 ⟨by omega, by omega⟩ dL_run_13 ml_L_132 (Nat.le_of_ble_eq_true rfl) (by omega) ?_
      rw [Int.toNat_natCast]
      by_cases c60 : T9 0 0 = 60
      · refine tx_q [.ref 0, .int (o_I (L.getD k 0))] (ct_L_feed hl 2 g9 _ _ S _ _ _ _ (ct_X11_feedN hl 0 g9 M P S T9 hx hw.1.1 (L.getD k 0) c60)) hH y_int dL_run_16 ml_L_135 ys_L_feed rfl (by decide) (by omega) (by omega) (by omega) rfl (Nat.le_of_ble_eq_true rfl) (fun g8 h8 hx8 hH8 he8 => ?_)
        rw [show h_c 1 0 [-14] = -14 from rfl]
        refine o_iload_n dL_run_19 rfl ?_
        refine o_iconst dL_run_20 ?_
        refine o_iadd dL_run_21 ?_
        refine o_icmp_eq (tgt := 28) dL_run_22 (by decide) ⟨by omega, by omega⟩ ⟨by omega, by omega⟩ (fun c_22 => absurd c_22 (by omega)) (fun c_22 => ?_)
        refine o_bipush dL_run_25 (by decide) ?_
        refine o_ret1 dL_run_27 trivial ?_
        exact ⟨rfl, -9, g8, _, _, _, rfl, hx8, hw.s, hH8, fun q a _ => (he8 q a).trans (he q a), ⟨by decide, by decide⟩, Or.inl ⟨by decide, rfl, rfl⟩, trivial⟩
      · refine tx_q [.ref 0, .int (o_I (L.getD k 0))] (ct_L_feed hl 2 g9 _ _ S _ _ _ _ (o_Ct.wk (ct_X11_feedY hl 0 g9 M P S T9 hx hw.1.1 (L.getD k 0) ⟨by omega, by omega⟩ t0 (by omega)) (x_es _))) hH y_int dL_run_16 ml_L_135 ys_L_feed rfl (by decide) (by omega) (by omega) (by omega) rfl (Nat.le_of_ble_eq_true rfl) (fun g8 h8 hx8 hH8 he8 => ?_)
        rw [show h_c 0 (T9 0 0 + 1) [-14] = T9 0 0 + 1 from rfl]
        have hw8 := w_feed0 (c := L.getD k 0) hw ⟨by omega, by omega⟩ (by omega)
        refine o_iload_n dL_run_19 rfl ?_
        refine o_iconst dL_run_20 ?_
        refine o_iadd dL_run_21 ?_
        refine o_icmp_eq (tgt := 28) dL_run_22 (by decide) ⟨by omega, by omega⟩ ⟨by omega, by omega⟩ (fun c_22 => ?_) (fun c_22 => ?_)
        · refine o_iinc dL_run_28 rfl (by decide) ?_
          refine o_goto (tgt := 2) dL_run_31 (by decide) ?_
          exact o_loc [(0, .ref 0), (1, .ref r), (2, .int (o_I ((k + 1 : Nat) : Int)))] rfl (ih hk9 g8 _ h8 _ _ hx8 hw8 hH8 (fun q hq => (he8 q hq).trans (he q hq)) (by omega) (by omega))
        · refine o_bipush dL_run_25 (by decide) ?_
          refine o_ret1 dL_run_27 trivial ?_
          exact ⟨rfl, -9, g8, _, _, _, rfl, hx8, hw8.s, hH8, fun q a _ => (he8 q a).trans (he q a), ⟨by decide, by decide⟩, Or.inl ⟨by decide, rfl, rfl⟩, trivial⟩)
  exact o_loc [(0, .ref 0), (1, .ref r), (2, .int (o_I ((0 : Nat) : Int)))] rfl (key 0 (Nat.zero_le _) g T h _ _ hx hw hH (fun q _ => rfl) (by omega) (by omega))
