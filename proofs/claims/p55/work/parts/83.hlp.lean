/-! the law's helpers -/
section HS
variable {l : Launch} {M : o_M} {d : Nat} {al : Nat → Prop} {post : o_P} {pc : Nat} {ls : List (Nat × Value)} {st : List Value} {mc ms : Nat} {g : Nat → Nat → Int}
/-- the handlers -/
theorem h_onN {n : Nat} {h : Nat → o_C} {E : String} {pre suf : List (Nat × Nat × Nat × Nat)} {a b hpc ct i : Nat} {k : Fin 4} (hsp : M.2.2.2.2.1 = pre ++ (a, b, hpc, ct) :: suf) (hpass : ∀ z ∈ pre, z.2.2.2 ≠ 0 ∧ ∃ nm, Cond.classLink M.1 z.2.2.2 nm ∈ o_gW ∧ (E, nm) ∈ o_ncs) (hcov : a ≤ pc ∧ pc < b) (h0 : ct ≠ 0) (hlink : Cond.classLink M.1 ct E ∈ o_gW) (hex : E ∈ o_exs) (hi : i < M.2.2.1)
    (hk : (k : Nat) = i) (hd : decode M.2.1 hpc = .ok (.astore_n k, 1)) (hls : ∀ q ∈ ls, q.1 ≠ i ∧ (q.1 + 1 = i → q.2.category ≠ 2)) (k1 : o_V l M d al post (hpc + 1) ls [] n h mc ms) : o_T l M d al post pc ls E n h mc ms :=
  o_T.on hsp hpass hcov h0 hlink hex hi (Or.inl ⟨k, hk, hd⟩) hls (fun _ => k1) (fun h9 => by rw [hd] at h9; cases h9)
theorem h_onS {n : Nat} {h : Nat → o_C} {E : String} {pre suf : List (Nat × Nat × Nat × Nat)} {a b hpc ct i : Nat} (hsp : M.2.2.2.2.1 = pre ++ (a, b, hpc, ct) :: suf) (hpass : ∀ z ∈ pre, z.2.2.2 ≠ 0 ∧ ∃ nm, Cond.classLink M.1 z.2.2.2 nm ∈ o_gW ∧ (E, nm) ∈ o_ncs) (hcov : a ≤ pc ∧ pc < b) (h0 : ct ≠ 0) (hlink : Cond.classLink M.1 ct E ∈ o_gW) (hex : E ∈ o_exs) (hi : i < M.2.2.1)
    (hd : decode M.2.1 hpc = .ok (.astore i, 2)) (hls : ∀ q ∈ ls, q.1 ≠ i ∧ (q.1 + 1 = i → q.2.category ≠ 2)) (k1 : o_V l M d al post (hpc + 2) ls [] n h mc ms) : o_T l M d al post pc ls E n h mc ms :=
  o_T.on hsp hpass hcov h0 hlink hex hi (Or.inr hd) hls (fun h9 => by obtain ⟨k, -, h9⟩ := h9; rw [hd] at h9; cases h9) (fun _ => k1)
end HS
/-- an answer: a value, and all numbers -/
def y_x (v : Value) (M' : Nat → Nat → Int) (P' : List (Nat → Nat → Int)) (S' : Option (Nat → Nat → Int)) (T' : Nat → Nat → Int) : o_P := fun o n h => n = o_N ∧ (∃ g', h = o_mem g' ∧ o_xd g' M' P' S' T') ∧ o = .inl (some v)
/-- what a helper answers: the value, or a number for the exception -/
def h_c (k v : Int) (cs : List Int) : Int := if k = 0 then v else cs.getD (k - 1).toNat 0
section HY
variable {Es : List String} {k v : Int} {w : Value} {cs : List Int} {M' : Nat → Nat → Int} {P' : List (Nat → Nat → Int)} {S' : Option (Nat → Nat → Int)} {T' g g' : Nat → Nat → Int}
theorem h_ok (hk : k = 0) (h : o_xd g' M' P' S' T' ∧ o_fr x_f9 g g') : y_x (.int (o_I (h_c k v cs))) M' P' S' T' (.inl (some (.int (o_I v)))) o_N (o_mem g') := ⟨rfl, ⟨g', rfl, h.1⟩, by unfold h_c; rw [if_pos hk]⟩
theorem h_no {m : Nat} {z : Int} (hk : k ≠ 0) (hm : (k - 1).toNat = m) (hz : cs.getD m 0 = z) (h : o_xd g' M' P' S' T' ∧ o_fr x_f9 g g') : y_x (.int (o_I (h_c k v cs))) M' P' S' T' (.inl (some (.int (o_I z)))) o_N (o_mem g') := ⟨rfl, ⟨g', rfl, h.1⟩, by unfold h_c; rw [if_neg hk, hm, hz]⟩
theorem x_y (hk : k = 0) : ∀ o n h, x_x Es k w M' P' S' T' g o n h → y_x w M' P' S' T' o n h := fun o n h q => ⟨q.1, q.2.1.elim (fun g' z => ⟨g', z.1, z.2.1⟩), by rcases q.2.2 with ⟨-, e⟩ | ⟨E, e, -⟩; exact e; exact absurd hk e⟩
theorem x_es (Es' : List String) : ∀ o n h, x_x [] 0 w M' P' S' T' g o n h → x_x Es' 0 w M' P' S' T' g o n h := fun o n h q => ⟨q.1, q.2.1, by rcases q.2.2 with e | ⟨E, e, -⟩; exact Or.inl e; exact absurd rfl e⟩
end HY
theorem hl_9 : Cond.classLink RL 9 "LampLeaseOffice" ∈ o_gW := o_gT (i := 40) (by decide +kernel) rfl
theorem hl_14 : Cond.classLink RL 14 "java/lang/IllegalStateException" ∈ o_gW := o_gT (i := 350) (by decide +kernel) rfl
theorem hl_20 : Cond.classLink RL 20 "java/lang/IllegalArgumentException" ∈ o_gW := o_gT (i := 525) (by decide +kernel) rfl
theorem hl_29 : Cond.classLink RL 29 "java/lang/IndexOutOfBoundsException" ∈ o_gW := o_gT (i := 556) (by decide +kernel) rfl
theorem hl_31 : Cond.classLink RL 31 "java/lang/UnsupportedOperationException" ∈ o_gW := o_gT (i := 577) (by decide +kernel) rfl
theorem hl_37 : Cond.classLink RL 37 "java/util/NoSuchElementException" ∈ o_gW := o_gT (i := 620) (by decide +kernel) rfl
theorem hl_295 : Cond.classLink RL 295 "java/lang/StringBuilder" ∈ o_gW := o_gT (i := 1087) (by decide +kernel) rfl
set_option maxRecDepth 100000 in
set_option maxHeartbeats 4000000 in
/-- the law's addShip -/
theorem ct_L_addShip {l : Launch} (hl : l.stackTraces = false) (d : Nat) (g M' : Nat → Nat → Int) (P' : List (Nat → Nat → Int)) (S' : Option (Nat → Nat → Int)) (T' : Nat → Nat → Int) (k v : Int) (hC : o_Ct l yX11_addShip wX11_addShip d o_no [.ref 0] o_N (o_mem g) 1 6 (x_x ["java/lang/IllegalStateException"] k (.int (o_I v)) M' P' S' T' g)) : o_Ct l yL_addShip wL_addShip (d + 1) o_no [.ref 0] o_N (o_mem g) 1 6 (y_x (.int (o_I (h_c k v [-1]))) M' P' S' T') := by
  refine o_Ct.ofVH hl mL_addShip (by decide +kernel) rfl rfl (Nat.le_of_ble_eq_true rfl) ?_
  refine o_loc [(0, .ref 0)] rfl ?_
  refine o_aload_n dL_addShip_0 rfl ?_
  refine o_callV [] (rest := []) hC dL_addShip_1 ml_L_8 yw_X11_addShip rfl (by decide) (by omega) (by decide) (by decide) (by decide) rfl rfl rfl (Nat.le_of_ble_eq_true rfl) (fun _ z => z.elim) (fun _ z => z.elim) (Or.inl fun _ z => z) (fun v9 n9 h9 q9 => ?_) (fun E n9 h9 q9 => ?_)
  · obtain ⟨rfl, ⟨g', rfl, hx9⟩, q⟩ := q9
    obtain ⟨hk, q⟩ := q.resolve_right (fun z => by obtain ⟨E', -, -, z⟩ := z; cases z)
    cases q
    refine o_ret1 dL_addShip_4 trivial ?_
    exact h_ok hk hx9
  · obtain ⟨rfl, ⟨g', rfl, hx9⟩, q⟩ := q9
    rcases q with ⟨-, q⟩ | ⟨E', hk, hE, q⟩
    · cases q
    cases q
    obtain ⟨m9, hm9⟩ : ∃ m9 : Nat, (k - 1).toNat = m9 := ⟨_, rfl⟩
    rw [hm9] at hE
    rcases m9 with _ | m9
    · cases hE
      refine h_onN (k := 1) (pre := []) (suf := []) (a := 0) (b := 4) (hpc := 5) (ct := 14) (i := 1) rfl (fun _ h9 => absurd h9 List.not_mem_nil) ⟨by decide, by decide⟩ (by decide) hl_14 (List.mem_of_getElem? (i := 2) rfl) (by decide) rfl dL_addShip_5 (List.forall_mem_cons.mpr ⟨⟨(show (0 : Nat) ≠ 1 by decide), fun _ => (show (1 : Nat) ≠ 2 by decide)⟩, (fun _ h9 => absurd h9 List.not_mem_nil)⟩) ?_
      refine o_iconst dL_addShip_6 ?_
      refine o_ret1 dL_addShip_7 trivial ?_
      exact h_no hk hm9 rfl hx9
    · cases hE
set_option maxRecDepth 100000 in
set_option maxHeartbeats 4000000 in
/-- the law's addLamp -/
theorem ct_L_addLamp {l : Launch} (hl : l.stackTraces = false) (d : Nat) (g M' : Nat → Nat → Int) (P' : List (Nat → Nat → Int)) (S' : Option (Nat → Nat → Int)) (T' : Nat → Nat → Int) (k v : Int) (i : Int) (hC : o_Ct l yX11_addLamp wX11_addLamp d o_no [.ref 0, .int (o_I i)] o_N (o_mem g) 1 6 (x_x ["java/lang/IllegalArgumentException", "java/lang/IllegalStateException"] k (.int (o_I v)) M' P' S' T' g)) : o_Ct l yL_addLamp wL_addLamp (d + 1) o_no [.ref 0, .int (o_I i)] o_N (o_mem g) 1 6 (y_x (.int (o_I (h_c k v [-1, -2]))) M' P' S' T') := by
  refine o_Ct.ofVH hl mL_addLamp (by decide +kernel) rfl rfl (Nat.le_of_ble_eq_true rfl) ?_
  refine o_loc [(0, .ref 0), (1, .int (o_I i))] rfl ?_
  refine o_aload_n dL_addLamp_0 rfl ?_
  refine o_iload_n dL_addLamp_1 rfl ?_
  refine o_callV [.int (o_I i)] (rest := []) hC dL_addLamp_2 ml_L_16 yw_X11_addLamp rfl (by decide) (by omega) (by decide) (by decide) (by decide) rfl rfl rfl (Nat.le_of_ble_eq_true rfl) (fun _ z => z.elim) (fun _ z => z.elim) (Or.inl fun _ z => z) (fun v9 n9 h9 q9 => ?_) (fun E n9 h9 q9 => ?_)
  · obtain ⟨rfl, ⟨g', rfl, hx9⟩, q⟩ := q9
    obtain ⟨hk, q⟩ := q.resolve_right (fun z => by obtain ⟨E', -, -, z⟩ := z; cases z)
    cases q
    refine o_ret1 dL_addLamp_5 trivial ?_
    exact h_ok hk hx9
  · obtain ⟨rfl, ⟨g', rfl, hx9⟩, q⟩ := q9
    rcases q with ⟨-, q⟩ | ⟨E', hk, hE, q⟩
    · cases q
    cases q
    obtain ⟨m9, hm9⟩ : ∃ m9 : Nat, (k - 1).toNat = m9 := ⟨_, rfl⟩
    rw [hm9] at hE
    rcases m9 with _ | m9
    · cases hE
      refine h_onN (k := 2) (pre := []) (suf := [(0, 5, 9, 14)]) (a := 0) (b := 5) (hpc := 6) (ct := 20) (i := 2) rfl (fun _ h9 => absurd h9 List.not_mem_nil) ⟨by decide, by decide⟩ (by decide) hl_20 (List.mem_of_getElem? (i := 1) rfl) (by decide) rfl dL_addLamp_6 (List.forall_mem_cons.mpr ⟨⟨(show (0 : Nat) ≠ 2 by decide), fun _ => (show (1 : Nat) ≠ 2 by decide)⟩, List.forall_mem_cons.mpr ⟨⟨(show (1 : Nat) ≠ 2 by decide), fun _ => (show (1 : Nat) ≠ 2 by decide)⟩, (fun _ h9 => absurd h9 List.not_mem_nil)⟩⟩) ?_
      refine o_iconst dL_addLamp_7 ?_
      refine o_ret1 dL_addLamp_8 trivial ?_
      exact h_no hk hm9 rfl hx9
    rcases m9 with _ | m9
    · cases hE
      refine h_onN (k := 2) (pre := [(0, 5, 6, 20)]) (suf := []) (a := 0) (b := 5) (hpc := 9) (ct := 14) (i := 2) rfl (List.forall_mem_cons.mpr ⟨⟨by decide, _, hl_20, List.mem_of_getElem? (i := 0) rfl⟩, (fun _ h9 => absurd h9 List.not_mem_nil)⟩) ⟨by decide, by decide⟩ (by decide) hl_14 (List.mem_of_getElem? (i := 2) rfl) (by decide) rfl dL_addLamp_9 (List.forall_mem_cons.mpr ⟨⟨(show (0 : Nat) ≠ 2 by decide), fun _ => (show (1 : Nat) ≠ 2 by decide)⟩, List.forall_mem_cons.mpr ⟨⟨(show (1 : Nat) ≠ 2 by decide), fun _ => (show (1 : Nat) ≠ 2 by decide)⟩, (fun _ h9 => absurd h9 List.not_mem_nil)⟩⟩) ?_
      refine o_bipush dL_addLamp_10 (by decide) ?_
      refine o_ret1 dL_addLamp_12 trivial ?_
      exact h_no hk hm9 rfl hx9
    · cases hE
set_option maxRecDepth 100000 in
set_option maxHeartbeats 4000000 in
/-- the law's addOil -/
theorem ct_L_addOil {l : Launch} (hl : l.stackTraces = false) (d : Nat) (g M' : Nat → Nat → Int) (P' : List (Nat → Nat → Int)) (S' : Option (Nat → Nat → Int)) (T' : Nat → Nat → Int) (k v : Int) (i : Int) (hC : o_Ct l yX11_addOil wX11_addOil d o_no [.ref 0, .int (o_I i)] o_N (o_mem g) 1 6 (x_x ["java/lang/IllegalArgumentException", "java/lang/IllegalStateException"] k (.int (o_I v)) M' P' S' T' g)) : o_Ct l yL_addOil wL_addOil (d + 1) o_no [.ref 0, .int (o_I i)] o_N (o_mem g) 1 6 (y_x (.int (o_I (h_c k v [-1, -2]))) M' P' S' T') := by
  refine o_Ct.ofVH hl mL_addOil (by decide +kernel) rfl rfl (Nat.le_of_ble_eq_true rfl) ?_
  refine o_loc [(0, .ref 0), (1, .int (o_I i))] rfl ?_
  refine o_aload_n dL_addOil_0 rfl ?_
  refine o_iload_n dL_addOil_1 rfl ?_
  refine o_callV [.int (o_I i)] (rest := []) hC dL_addOil_2 ml_L_22 yw_X11_addOil rfl (by decide) (by omega) (by decide) (by decide) (by decide) rfl rfl rfl (Nat.le_of_ble_eq_true rfl) (fun _ z => z.elim) (fun _ z => z.elim) (Or.inl fun _ z => z) (fun v9 n9 h9 q9 => ?_) (fun E n9 h9 q9 => ?_)
  · obtain ⟨rfl, ⟨g', rfl, hx9⟩, q⟩ := q9
    obtain ⟨hk, q⟩ := q.resolve_right (fun z => by obtain ⟨E', -, -, z⟩ := z; cases z)
    cases q
    refine o_ret1 dL_addOil_5 trivial ?_
    exact h_ok hk hx9
  · obtain ⟨rfl, ⟨g', rfl, hx9⟩, q⟩ := q9
    rcases q with ⟨-, q⟩ | ⟨E', hk, hE, q⟩
    · cases q
    cases q
    obtain ⟨m9, hm9⟩ : ∃ m9 : Nat, (k - 1).toNat = m9 := ⟨_, rfl⟩
    rw [hm9] at hE
    rcases m9 with _ | m9
    · cases hE
      refine h_onN (k := 2) (pre := []) (suf := [(0, 5, 9, 14)]) (a := 0) (b := 5) (hpc := 6) (ct := 20) (i := 2) rfl (fun _ h9 => absurd h9 List.not_mem_nil) ⟨by decide, by decide⟩ (by decide) hl_20 (List.mem_of_getElem? (i := 1) rfl) (by decide) rfl dL_addOil_6 (List.forall_mem_cons.mpr ⟨⟨(show (0 : Nat) ≠ 2 by decide), fun _ => (show (1 : Nat) ≠ 2 by decide)⟩, List.forall_mem_cons.mpr ⟨⟨(show (1 : Nat) ≠ 2 by decide), fun _ => (show (1 : Nat) ≠ 2 by decide)⟩, (fun _ h9 => absurd h9 List.not_mem_nil)⟩⟩) ?_
      refine o_iconst dL_addOil_7 ?_
      refine o_ret1 dL_addOil_8 trivial ?_
      exact h_no hk hm9 rfl hx9
    rcases m9 with _ | m9
    · cases hE
      refine h_onN (k := 2) (pre := [(0, 5, 6, 20)]) (suf := []) (a := 0) (b := 5) (hpc := 9) (ct := 14) (i := 2) rfl (List.forall_mem_cons.mpr ⟨⟨by decide, _, hl_20, List.mem_of_getElem? (i := 0) rfl⟩, (fun _ h9 => absurd h9 List.not_mem_nil)⟩) ⟨by decide, by decide⟩ (by decide) hl_14 (List.mem_of_getElem? (i := 2) rfl) (by decide) rfl dL_addOil_9 (List.forall_mem_cons.mpr ⟨⟨(show (0 : Nat) ≠ 2 by decide), fun _ => (show (1 : Nat) ≠ 2 by decide)⟩, List.forall_mem_cons.mpr ⟨⟨(show (1 : Nat) ≠ 2 by decide), fun _ => (show (1 : Nat) ≠ 2 by decide)⟩, (fun _ h9 => absurd h9 List.not_mem_nil)⟩⟩) ?_
      refine o_bipush dL_addOil_10 (by decide) ?_
      refine o_ret1 dL_addOil_12 trivial ?_
      exact h_no hk hm9 rfl hx9
    · cases hE
set_option maxRecDepth 100000 in
set_option maxHeartbeats 4000000 in
/-- the law's lease -/
theorem ct_L_lease {l : Launch} (hl : l.stackTraces = false) (d : Nat) (g M' : Nat → Nat → Int) (P' : List (Nat → Nat → Int)) (S' : Option (Nat → Nat → Int)) (T' : Nat → Nat → Int) (k v : Int) (i : Int) (j : Int) (q : Int) (hC : o_Ct l yX11_lease wX11_lease d o_no [.ref 0, .int (o_I i), .int (o_I j), .int (o_I q)] o_N (o_mem g) 1 6 (x_x ["java/lang/IndexOutOfBoundsException", "java/lang/IllegalArgumentException", "java/lang/IllegalStateException", "java/lang/UnsupportedOperationException"] k (.int (o_I v)) M' P' S' T' g)) : o_Ct l yL_lease wL_lease (d + 1) o_no [.ref 0, .int (o_I i), .int (o_I j), .int (o_I q)] o_N (o_mem g) 1 6 (y_x (.int (o_I (h_c k v [-1, -2, -3, -4]))) M' P' S' T') := by
  refine o_Ct.ofVH hl mL_lease (by decide +kernel) rfl rfl (Nat.le_of_ble_eq_true rfl) ?_
  refine o_loc [(0, .ref 0), (1, .int (o_I i)), (2, .int (o_I j)), (3, .int (o_I q))] rfl ?_
  refine o_aload_n dL_lease_0 rfl ?_
  refine o_iload_n dL_lease_1 rfl ?_
  refine o_iload_n dL_lease_2 rfl ?_
  refine o_iload_n dL_lease_3 rfl ?_
  refine o_callV [.int (o_I i), .int (o_I j), .int (o_I q)] (rest := []) hC dL_lease_4 ml_L_25 yw_X11_lease rfl (by decide) (by omega) (by decide) (by decide) (by decide) rfl rfl rfl (Nat.le_of_ble_eq_true rfl) (fun _ z => z.elim) (fun _ z => z.elim) (Or.inl fun _ z => z) (fun v9 n9 h9 q9 => ?_) (fun E n9 h9 q9 => ?_)
  · obtain ⟨rfl, ⟨g', rfl, hx9⟩, q⟩ := q9
    obtain ⟨hk, q⟩ := q.resolve_right (fun z => by obtain ⟨E', -, -, z⟩ := z; cases z)
    cases q
    refine o_ret1 dL_lease_7 trivial ?_
    exact h_ok hk hx9
  · obtain ⟨rfl, ⟨g', rfl, hx9⟩, q⟩ := q9
    rcases q with ⟨-, q⟩ | ⟨E', hk, hE, q⟩
    · cases q
    cases q
    obtain ⟨m9, hm9⟩ : ∃ m9 : Nat, (k - 1).toNat = m9 := ⟨_, rfl⟩
    rw [hm9] at hE
    rcases m9 with _ | m9
    · cases hE
      refine h_onS (pre := []) (suf := [(0, 7, 12, 20), (0, 7, 17, 14), (0, 7, 22, 31)]) (a := 0) (b := 7) (hpc := 8) (ct := 29) (i := 4) rfl (fun _ h9 => absurd h9 List.not_mem_nil) ⟨by decide, by decide⟩ (by decide) hl_29 (List.mem_of_getElem? (i := 0) rfl) (by decide) dL_lease_8 (List.forall_mem_cons.mpr ⟨⟨(show (0 : Nat) ≠ 4 by decide), fun _ => (show (1 : Nat) ≠ 2 by decide)⟩, List.forall_mem_cons.mpr ⟨⟨(show (1 : Nat) ≠ 4 by decide), fun _ => (show (1 : Nat) ≠ 2 by decide)⟩, List.forall_mem_cons.mpr ⟨⟨(show (2 : Nat) ≠ 4 by decide), fun _ => (show (1 : Nat) ≠ 2 by decide)⟩, List.forall_mem_cons.mpr ⟨⟨(show (3 : Nat) ≠ 4 by decide), fun _ => (show (1 : Nat) ≠ 2 by decide)⟩, (fun _ h9 => absurd h9 List.not_mem_nil)⟩⟩⟩⟩) ?_
      refine o_iconst dL_lease_10 ?_
      refine o_ret1 dL_lease_11 trivial ?_
      exact h_no hk hm9 rfl hx9
    rcases m9 with _ | m9
    · cases hE
      refine h_onS (pre := [(0, 7, 8, 29)]) (suf := [(0, 7, 17, 14), (0, 7, 22, 31)]) (a := 0) (b := 7) (hpc := 12) (ct := 20) (i := 4) rfl (List.forall_mem_cons.mpr ⟨⟨by decide, _, hl_29, List.mem_of_getElem? (i := 1) rfl⟩, (fun _ h9 => absurd h9 List.not_mem_nil)⟩) ⟨by decide, by decide⟩ (by decide) hl_20 (List.mem_of_getElem? (i := 1) rfl) (by decide) dL_lease_12 (List.forall_mem_cons.mpr ⟨⟨(show (0 : Nat) ≠ 4 by decide), fun _ => (show (1 : Nat) ≠ 2 by decide)⟩, List.forall_mem_cons.mpr ⟨⟨(show (1 : Nat) ≠ 4 by decide), fun _ => (show (1 : Nat) ≠ 2 by decide)⟩, List.forall_mem_cons.mpr ⟨⟨(show (2 : Nat) ≠ 4 by decide), fun _ => (show (1 : Nat) ≠ 2 by decide)⟩, List.forall_mem_cons.mpr ⟨⟨(show (3 : Nat) ≠ 4 by decide), fun _ => (show (1 : Nat) ≠ 2 by decide)⟩, (fun _ h9 => absurd h9 List.not_mem_nil)⟩⟩⟩⟩) ?_
      refine o_bipush dL_lease_14 (by decide) ?_
      refine o_ret1 dL_lease_16 trivial ?_
      exact h_no hk hm9 rfl hx9
    rcases m9 with _ | m9
    · cases hE
      refine h_onS (pre := [(0, 7, 8, 29), (0, 7, 12, 20)]) (suf := [(0, 7, 22, 31)]) (a := 0) (b := 7) (hpc := 17) (ct := 14) (i := 4) rfl (List.forall_mem_cons.mpr ⟨⟨by decide, _, hl_29, List.mem_of_getElem? (i := 2) rfl⟩, List.forall_mem_cons.mpr ⟨⟨by decide, _, hl_20, List.mem_of_getElem? (i := 0) rfl⟩, (fun _ h9 => absurd h9 List.not_mem_nil)⟩⟩) ⟨by decide, by decide⟩ (by decide) hl_14 (List.mem_of_getElem? (i := 2) rfl) (by decide) dL_lease_17 (List.forall_mem_cons.mpr ⟨⟨(show (0 : Nat) ≠ 4 by decide), fun _ => (show (1 : Nat) ≠ 2 by decide)⟩, List.forall_mem_cons.mpr ⟨⟨(show (1 : Nat) ≠ 4 by decide), fun _ => (show (1 : Nat) ≠ 2 by decide)⟩, List.forall_mem_cons.mpr ⟨⟨(show (2 : Nat) ≠ 4 by decide), fun _ => (show (1 : Nat) ≠ 2 by decide)⟩, List.forall_mem_cons.mpr ⟨⟨(show (3 : Nat) ≠ 4 by decide), fun _ => (show (1 : Nat) ≠ 2 by decide)⟩, (fun _ h9 => absurd h9 List.not_mem_nil)⟩⟩⟩⟩) ?_
      refine o_bipush dL_lease_19 (by decide) ?_
      refine o_ret1 dL_lease_21 trivial ?_
      exact h_no hk hm9 rfl hx9
    rcases m9 with _ | m9
    · cases hE
      refine h_onS (pre := [(0, 7, 8, 29), (0, 7, 12, 20), (0, 7, 17, 14)]) (suf := []) (a := 0) (b := 7) (hpc := 22) (ct := 31) (i := 4) rfl (List.forall_mem_cons.mpr ⟨⟨by decide, _, hl_29, List.mem_of_getElem? (i := 3) rfl⟩, List.forall_mem_cons.mpr ⟨⟨by decide, _, hl_20, List.mem_of_getElem? (i := 4) rfl⟩, List.forall_mem_cons.mpr ⟨⟨by decide, _, hl_14, List.mem_of_getElem? (i := 5) rfl⟩, (fun _ h9 => absurd h9 List.not_mem_nil)⟩⟩⟩) ⟨by decide, by decide⟩ (by decide) hl_31 (List.mem_of_getElem? (i := 4) rfl) (by decide) dL_lease_22 (List.forall_mem_cons.mpr ⟨⟨(show (0 : Nat) ≠ 4 by decide), fun _ => (show (1 : Nat) ≠ 2 by decide)⟩, List.forall_mem_cons.mpr ⟨⟨(show (1 : Nat) ≠ 4 by decide), fun _ => (show (1 : Nat) ≠ 2 by decide)⟩, List.forall_mem_cons.mpr ⟨⟨(show (2 : Nat) ≠ 4 by decide), fun _ => (show (1 : Nat) ≠ 2 by decide)⟩, List.forall_mem_cons.mpr ⟨⟨(show (3 : Nat) ≠ 4 by decide), fun _ => (show (1 : Nat) ≠ 2 by decide)⟩, (fun _ h9 => absurd h9 List.not_mem_nil)⟩⟩⟩⟩) ?_
      refine o_bipush dL_lease_24 (by decide) ?_
      refine o_ret1 dL_lease_26 trivial ?_
      exact h_no hk hm9 rfl hx9
    · cases hE
set_option maxRecDepth 100000 in
set_option maxHeartbeats 4000000 in
/-- the law's renew -/
theorem ct_L_renew {l : Launch} (hl : l.stackTraces = false) (d : Nat) (g M' : Nat → Nat → Int) (P' : List (Nat → Nat → Int)) (S' : Option (Nat → Nat → Int)) (T' : Nat → Nat → Int) (k v : Int) (i : Int) (j : Int) (hC : o_Ct l yX11_requestRenewal wX11_requestRenewal d o_no [.ref 0, .int (o_I i), .int (o_I j)] o_N (o_mem g) 1 6 (x_x ["java/lang/IndexOutOfBoundsException", "java/lang/IllegalArgumentException", "java/util/NoSuchElementException", "java/lang/IllegalStateException"] k (.int (o_I v)) M' P' S' T' g)) : o_Ct l yL_renew wL_renew (d + 1) o_no [.ref 0, .int (o_I i), .int (o_I j)] o_N (o_mem g) 1 6 (y_x (.int (o_I (h_c k v [-1, -2, -3, -4]))) M' P' S' T') := by
  refine o_Ct.ofVH hl mL_renew (by decide +kernel) rfl rfl (Nat.le_of_ble_eq_true rfl) ?_
  refine o_loc [(0, .ref 0), (1, .int (o_I i)), (2, .int (o_I j))] rfl ?_
  refine o_aload_n dL_renew_0 rfl ?_
  refine o_iload_n dL_renew_1 rfl ?_
  refine o_iload_n dL_renew_2 rfl ?_
  refine o_callV [.int (o_I i), .int (o_I j)] (rest := []) hC dL_renew_3 ml_L_33 yw_X11_requestRenewal rfl (by decide) (by omega) (by decide) (by decide) (by decide) rfl rfl rfl (Nat.le_of_ble_eq_true rfl) (fun _ z => z.elim) (fun _ z => z.elim) (Or.inl fun _ z => z) (fun v9 n9 h9 q9 => ?_) (fun E n9 h9 q9 => ?_)
  · obtain ⟨rfl, ⟨g', rfl, hx9⟩, q⟩ := q9
    obtain ⟨hk, q⟩ := q.resolve_right (fun z => by obtain ⟨E', -, -, z⟩ := z; cases z)
    cases q
    refine o_ret1 dL_renew_6 trivial ?_
    exact h_ok hk hx9
  · obtain ⟨rfl, ⟨g', rfl, hx9⟩, q⟩ := q9
    rcases q with ⟨-, q⟩ | ⟨E', hk, hE, q⟩
    · cases q
    cases q
    obtain ⟨m9, hm9⟩ : ∃ m9 : Nat, (k - 1).toNat = m9 := ⟨_, rfl⟩
    rw [hm9] at hE
    rcases m9 with _ | m9
    · cases hE
      refine h_onN (k := 3) (pre := []) (suf := [(0, 6, 10, 20), (0, 6, 14, 37), (0, 6, 18, 14)]) (a := 0) (b := 6) (hpc := 7) (ct := 29) (i := 3) rfl (fun _ h9 => absurd h9 List.not_mem_nil) ⟨by decide, by decide⟩ (by decide) hl_29 (List.mem_of_getElem? (i := 0) rfl) (by decide) rfl dL_renew_7 (List.forall_mem_cons.mpr ⟨⟨(show (0 : Nat) ≠ 3 by decide), fun _ => (show (1 : Nat) ≠ 2 by decide)⟩, List.forall_mem_cons.mpr ⟨⟨(show (1 : Nat) ≠ 3 by decide), fun _ => (show (1 : Nat) ≠ 2 by decide)⟩, List.forall_mem_cons.mpr ⟨⟨(show (2 : Nat) ≠ 3 by decide), fun _ => (show (1 : Nat) ≠ 2 by decide)⟩, (fun _ h9 => absurd h9 List.not_mem_nil)⟩⟩⟩) ?_
      refine o_iconst dL_renew_8 ?_
      refine o_ret1 dL_renew_9 trivial ?_
      exact h_no hk hm9 rfl hx9
    rcases m9 with _ | m9
    · cases hE
      refine h_onN (k := 3) (pre := [(0, 6, 7, 29)]) (suf := [(0, 6, 14, 37), (0, 6, 18, 14)]) (a := 0) (b := 6) (hpc := 10) (ct := 20) (i := 3) rfl (List.forall_mem_cons.mpr ⟨⟨by decide, _, hl_29, List.mem_of_getElem? (i := 1) rfl⟩, (fun _ h9 => absurd h9 List.not_mem_nil)⟩) ⟨by decide, by decide⟩ (by decide) hl_20 (List.mem_of_getElem? (i := 1) rfl) (by decide) rfl dL_renew_10 (List.forall_mem_cons.mpr ⟨⟨(show (0 : Nat) ≠ 3 by decide), fun _ => (show (1 : Nat) ≠ 2 by decide)⟩, List.forall_mem_cons.mpr ⟨⟨(show (1 : Nat) ≠ 3 by decide), fun _ => (show (1 : Nat) ≠ 2 by decide)⟩, List.forall_mem_cons.mpr ⟨⟨(show (2 : Nat) ≠ 3 by decide), fun _ => (show (1 : Nat) ≠ 2 by decide)⟩, (fun _ h9 => absurd h9 List.not_mem_nil)⟩⟩⟩) ?_
      refine o_bipush dL_renew_11 (by decide) ?_
      refine o_ret1 dL_renew_13 trivial ?_
      exact h_no hk hm9 rfl hx9
    rcases m9 with _ | m9
    · cases hE
      refine h_onN (k := 3) (pre := [(0, 6, 7, 29), (0, 6, 10, 20)]) (suf := [(0, 6, 18, 14)]) (a := 0) (b := 6) (hpc := 14) (ct := 37) (i := 3) rfl (List.forall_mem_cons.mpr ⟨⟨by decide, _, hl_29, List.mem_of_getElem? (i := 6) rfl⟩, List.forall_mem_cons.mpr ⟨⟨by decide, _, hl_20, List.mem_of_getElem? (i := 7) rfl⟩, (fun _ h9 => absurd h9 List.not_mem_nil)⟩⟩) ⟨by decide, by decide⟩ (by decide) hl_37 (List.mem_of_getElem? (i := 3) rfl) (by decide) rfl dL_renew_14 (List.forall_mem_cons.mpr ⟨⟨(show (0 : Nat) ≠ 3 by decide), fun _ => (show (1 : Nat) ≠ 2 by decide)⟩, List.forall_mem_cons.mpr ⟨⟨(show (1 : Nat) ≠ 3 by decide), fun _ => (show (1 : Nat) ≠ 2 by decide)⟩, List.forall_mem_cons.mpr ⟨⟨(show (2 : Nat) ≠ 3 by decide), fun _ => (show (1 : Nat) ≠ 2 by decide)⟩, (fun _ h9 => absurd h9 List.not_mem_nil)⟩⟩⟩) ?_
      refine o_bipush dL_renew_15 (by decide) ?_
      refine o_ret1 dL_renew_17 trivial ?_
      exact h_no hk hm9 rfl hx9
    rcases m9 with _ | m9
    · cases hE
      refine h_onN (k := 3) (pre := [(0, 6, 7, 29), (0, 6, 10, 20), (0, 6, 14, 37)]) (suf := []) (a := 0) (b := 6) (hpc := 18) (ct := 14) (i := 3) rfl (List.forall_mem_cons.mpr ⟨⟨by decide, _, hl_29, List.mem_of_getElem? (i := 2) rfl⟩, List.forall_mem_cons.mpr ⟨⟨by decide, _, hl_20, List.mem_of_getElem? (i := 0) rfl⟩, List.forall_mem_cons.mpr ⟨⟨by decide, _, hl_37, List.mem_of_getElem? (i := 8) rfl⟩, (fun _ h9 => absurd h9 List.not_mem_nil)⟩⟩⟩) ⟨by decide, by decide⟩ (by decide) hl_14 (List.mem_of_getElem? (i := 2) rfl) (by decide) rfl dL_renew_18 (List.forall_mem_cons.mpr ⟨⟨(show (0 : Nat) ≠ 3 by decide), fun _ => (show (1 : Nat) ≠ 2 by decide)⟩, List.forall_mem_cons.mpr ⟨⟨(show (1 : Nat) ≠ 3 by decide), fun _ => (show (1 : Nat) ≠ 2 by decide)⟩, List.forall_mem_cons.mpr ⟨⟨(show (2 : Nat) ≠ 3 by decide), fun _ => (show (1 : Nat) ≠ 2 by decide)⟩, (fun _ h9 => absurd h9 List.not_mem_nil)⟩⟩⟩) ?_
      refine o_bipush dL_renew_19 (by decide) ?_
      refine o_ret1 dL_renew_21 trivial ?_
      exact h_no hk hm9 rfl hx9
    · cases hE
set_option maxRecDepth 100000 in
set_option maxHeartbeats 4000000 in
/-- the law's pass -/
theorem ct_L_pass {l : Launch} (hl : l.stackTraces = false) (d : Nat) (g M' : Nat → Nat → Int) (P' : List (Nat → Nat → Int)) (S' : Option (Nat → Nat → Int)) (T' : Nat → Nat → Int) (k v : Int) (i : Int) (hC : o_Ct l yX11_passHours wX11_passHours d o_no [.ref 0, .int (o_I i)] o_N (o_mem g) 1 6 (x_x ["java/lang/IllegalArgumentException"] k (.int (o_I v)) M' P' S' T' g)) : o_Ct l yL_pass wL_pass (d + 1) o_no [.ref 0, .int (o_I i)] o_N (o_mem g) 1 6 (y_x (.int (o_I (h_c k v [-1]))) M' P' S' T') := by
  refine o_Ct.ofVH hl mL_pass (by decide +kernel) rfl rfl (Nat.le_of_ble_eq_true rfl) ?_
  refine o_loc [(0, .ref 0), (1, .int (o_I i))] rfl ?_
  refine o_aload_n dL_pass_0 rfl ?_
  refine o_iload_n dL_pass_1 rfl ?_
  refine o_callV [.int (o_I i)] (rest := []) hC dL_pass_2 ml_L_42 yw_X11_passHours rfl (by decide) (by omega) (by decide) (by decide) (by decide) rfl rfl rfl (Nat.le_of_ble_eq_true rfl) (fun _ z => z.elim) (fun _ z => z.elim) (Or.inl fun _ z => z) (fun v9 n9 h9 q9 => ?_) (fun E n9 h9 q9 => ?_)
  · obtain ⟨rfl, ⟨g', rfl, hx9⟩, q⟩ := q9
    obtain ⟨hk, q⟩ := q.resolve_right (fun z => by obtain ⟨E', -, -, z⟩ := z; cases z)
    cases q
    refine o_ret1 dL_pass_5 trivial ?_
    exact h_ok hk hx9
  · obtain ⟨rfl, ⟨g', rfl, hx9⟩, q⟩ := q9
    rcases q with ⟨-, q⟩ | ⟨E', hk, hE, q⟩
    · cases q
    cases q
    obtain ⟨m9, hm9⟩ : ∃ m9 : Nat, (k - 1).toNat = m9 := ⟨_, rfl⟩
    rw [hm9] at hE
    rcases m9 with _ | m9
    · cases hE
      refine h_onN (k := 2) (pre := []) (suf := []) (a := 0) (b := 5) (hpc := 6) (ct := 20) (i := 2) rfl (fun _ h9 => absurd h9 List.not_mem_nil) ⟨by decide, by decide⟩ (by decide) hl_20 (List.mem_of_getElem? (i := 1) rfl) (by decide) rfl dL_pass_6 (List.forall_mem_cons.mpr ⟨⟨(show (0 : Nat) ≠ 2 by decide), fun _ => (show (1 : Nat) ≠ 2 by decide)⟩, List.forall_mem_cons.mpr ⟨⟨(show (1 : Nat) ≠ 2 by decide), fun _ => (show (1 : Nat) ≠ 2 by decide)⟩, (fun _ h9 => absurd h9 List.not_mem_nil)⟩⟩) ?_
      refine o_iconst dL_pass_7 ?_
      refine o_ret1 dL_pass_8 trivial ?_
      exact h_no hk hm9 rfl hx9
    · cases hE
set_option maxRecDepth 100000 in
set_option maxHeartbeats 4000000 in
/-- the law's giveUp -/
theorem ct_L_giveUp {l : Launch} (hl : l.stackTraces = false) (d : Nat) (g M' : Nat → Nat → Int) (P' : List (Nat → Nat → Int)) (S' : Option (Nat → Nat → Int)) (T' : Nat → Nat → Int) (k v : Int) (i : Int) (hC : o_Ct l yX11_giveUp wX11_giveUp d o_no [.ref 0, .int (o_I i)] o_N (o_mem g) 1 6 (x_x ["java/lang/IndexOutOfBoundsException", "java/util/NoSuchElementException"] k (.int (o_I v)) M' P' S' T' g)) : o_Ct l yL_giveUp wL_giveUp (d + 1) o_no [.ref 0, .int (o_I i)] o_N (o_mem g) 1 6 (y_x (.int (o_I (h_c k v [-1, -2]))) M' P' S' T') := by
  refine o_Ct.ofVH hl mL_giveUp (by decide +kernel) rfl rfl (Nat.le_of_ble_eq_true rfl) ?_
  refine o_loc [(0, .ref 0), (1, .int (o_I i))] rfl ?_
  refine o_aload_n dL_giveUp_0 rfl ?_
  refine o_iload_n dL_giveUp_1 rfl ?_
  refine o_callV [.int (o_I i)] (rest := []) hC dL_giveUp_2 ml_L_39 yw_X11_giveUp rfl (by decide) (by omega) (by decide) (by decide) (by decide) rfl rfl rfl (Nat.le_of_ble_eq_true rfl) (fun _ z => z.elim) (fun _ z => z.elim) (Or.inl fun _ z => z) (fun v9 n9 h9 q9 => ?_) (fun E n9 h9 q9 => ?_)
  · obtain ⟨rfl, ⟨g', rfl, hx9⟩, q⟩ := q9
    obtain ⟨hk, q⟩ := q.resolve_right (fun z => by obtain ⟨E', -, -, z⟩ := z; cases z)
    cases q
    refine o_ret1 dL_giveUp_5 trivial ?_
    exact h_ok hk hx9
  · obtain ⟨rfl, ⟨g', rfl, hx9⟩, q⟩ := q9
    rcases q with ⟨-, q⟩ | ⟨E', hk, hE, q⟩
    · cases q
    cases q
    obtain ⟨m9, hm9⟩ : ∃ m9 : Nat, (k - 1).toNat = m9 := ⟨_, rfl⟩
    rw [hm9] at hE
    rcases m9 with _ | m9
    · cases hE
      refine h_onN (k := 2) (pre := []) (suf := [(0, 5, 9, 37)]) (a := 0) (b := 5) (hpc := 6) (ct := 29) (i := 2) rfl (fun _ h9 => absurd h9 List.not_mem_nil) ⟨by decide, by decide⟩ (by decide) hl_29 (List.mem_of_getElem? (i := 0) rfl) (by decide) rfl dL_giveUp_6 (List.forall_mem_cons.mpr ⟨⟨(show (0 : Nat) ≠ 2 by decide), fun _ => (show (1 : Nat) ≠ 2 by decide)⟩, List.forall_mem_cons.mpr ⟨⟨(show (1 : Nat) ≠ 2 by decide), fun _ => (show (1 : Nat) ≠ 2 by decide)⟩, (fun _ h9 => absurd h9 List.not_mem_nil)⟩⟩) ?_
      refine o_iconst dL_giveUp_7 ?_
      refine o_ret1 dL_giveUp_8 trivial ?_
      exact h_no hk hm9 rfl hx9
    rcases m9 with _ | m9
    · cases hE
      refine h_onN (k := 2) (pre := [(0, 5, 6, 29)]) (suf := []) (a := 0) (b := 5) (hpc := 9) (ct := 37) (i := 2) rfl (List.forall_mem_cons.mpr ⟨⟨by decide, _, hl_29, List.mem_of_getElem? (i := 6) rfl⟩, (fun _ h9 => absurd h9 List.not_mem_nil)⟩) ⟨by decide, by decide⟩ (by decide) hl_37 (List.mem_of_getElem? (i := 3) rfl) (by decide) rfl dL_giveUp_9 (List.forall_mem_cons.mpr ⟨⟨(show (0 : Nat) ≠ 2 by decide), fun _ => (show (1 : Nat) ≠ 2 by decide)⟩, List.forall_mem_cons.mpr ⟨⟨(show (1 : Nat) ≠ 2 by decide), fun _ => (show (1 : Nat) ≠ 2 by decide)⟩, (fun _ h9 => absurd h9 List.not_mem_nil)⟩⟩) ?_
      refine o_bipush dL_giveUp_10 (by decide) ?_
      refine o_ret1 dL_giveUp_12 trivial ?_
      exact h_no hk hm9 rfl hx9
    · cases hE
set_option maxRecDepth 100000 in
set_option maxHeartbeats 4000000 in
/-- the law's lessee -/
theorem ct_L_lessee {l : Launch} (hl : l.stackTraces = false) (d : Nat) (g M' : Nat → Nat → Int) (P' : List (Nat → Nat → Int)) (S' : Option (Nat → Nat → Int)) (T' : Nat → Nat → Int) (k v : Int) (i : Int) (hC : o_Ct l yX11_lessee wX11_lessee d o_no [.ref 0, .int (o_I i)] o_N (o_mem g) 1 6 (x_x ["java/lang/IndexOutOfBoundsException", "java/util/NoSuchElementException"] k (.int (o_I v)) M' P' S' T' g)) : o_Ct l yL_lessee wL_lessee (d + 1) o_no [.ref 0, .int (o_I i)] o_N (o_mem g) 1 6 (y_x (.int (o_I (h_c k v [-11, -13]))) M' P' S' T') := by
  refine o_Ct.ofVH hl mL_lessee (by decide +kernel) rfl rfl (Nat.le_of_ble_eq_true rfl) ?_
  refine o_loc [(0, .ref 0), (1, .int (o_I i))] rfl ?_
  refine o_aload_n dL_lessee_0 rfl ?_
  refine o_iload_n dL_lessee_1 rfl ?_
  refine o_callV [.int (o_I i)] (rest := []) hC dL_lessee_2 ml_L_67 yw_X11_lessee rfl (by decide) (by omega) (by decide) (by decide) (by decide) rfl rfl rfl (Nat.le_of_ble_eq_true rfl) (fun _ z => z.elim) (fun _ z => z.elim) (Or.inl fun _ z => z) (fun v9 n9 h9 q9 => ?_) (fun E n9 h9 q9 => ?_)
  · obtain ⟨rfl, ⟨g', rfl, hx9⟩, q⟩ := q9
    obtain ⟨hk, q⟩ := q.resolve_right (fun z => by obtain ⟨E', -, -, z⟩ := z; cases z)
    cases q
    refine o_ret1 dL_lessee_5 trivial ?_
    exact h_ok hk hx9
  · obtain ⟨rfl, ⟨g', rfl, hx9⟩, q⟩ := q9
    rcases q with ⟨-, q⟩ | ⟨E', hk, hE, q⟩
    · cases q
    cases q
    obtain ⟨m9, hm9⟩ : ∃ m9 : Nat, (k - 1).toNat = m9 := ⟨_, rfl⟩
    rw [hm9] at hE
    rcases m9 with _ | m9
    · cases hE
      refine h_onN (k := 2) (pre := []) (suf := [(0, 5, 10, 37)]) (a := 0) (b := 5) (hpc := 6) (ct := 29) (i := 2) rfl (fun _ h9 => absurd h9 List.not_mem_nil) ⟨by decide, by decide⟩ (by decide) hl_29 (List.mem_of_getElem? (i := 0) rfl) (by decide) rfl dL_lessee_6 (List.forall_mem_cons.mpr ⟨⟨(show (0 : Nat) ≠ 2 by decide), fun _ => (show (1 : Nat) ≠ 2 by decide)⟩, List.forall_mem_cons.mpr ⟨⟨(show (1 : Nat) ≠ 2 by decide), fun _ => (show (1 : Nat) ≠ 2 by decide)⟩, (fun _ h9 => absurd h9 List.not_mem_nil)⟩⟩) ?_
      refine o_bipush dL_lessee_7 (by decide) ?_
      refine o_ret1 dL_lessee_9 trivial ?_
      exact h_no hk hm9 rfl hx9
    rcases m9 with _ | m9
    · cases hE
      refine h_onN (k := 2) (pre := [(0, 5, 6, 29)]) (suf := []) (a := 0) (b := 5) (hpc := 10) (ct := 37) (i := 2) rfl (List.forall_mem_cons.mpr ⟨⟨by decide, _, hl_29, List.mem_of_getElem? (i := 6) rfl⟩, (fun _ h9 => absurd h9 List.not_mem_nil)⟩) ⟨by decide, by decide⟩ (by decide) hl_37 (List.mem_of_getElem? (i := 3) rfl) (by decide) rfl dL_lessee_10 (List.forall_mem_cons.mpr ⟨⟨(show (0 : Nat) ≠ 2 by decide), fun _ => (show (1 : Nat) ≠ 2 by decide)⟩, List.forall_mem_cons.mpr ⟨⟨(show (1 : Nat) ≠ 2 by decide), fun _ => (show (1 : Nat) ≠ 2 by decide)⟩, (fun _ h9 => absurd h9 List.not_mem_nil)⟩⟩) ?_
      refine o_bipush dL_lessee_11 (by decide) ?_
      refine o_ret1 dL_lessee_13 trivial ?_
      exact h_no hk hm9 rfl hx9
    · cases hE
set_option maxRecDepth 100000 in
set_option maxHeartbeats 4000000 in
/-- the law's share -/
theorem ct_L_share {l : Launch} (hl : l.stackTraces = false) (d : Nat) (g M' : Nat → Nat → Int) (P' : List (Nat → Nat → Int)) (S' : Option (Nat → Nat → Int)) (T' : Nat → Nat → Int) (k v : Int) (i : Int) (hC : o_Ct l yX11_share wX11_share d o_no [.ref 0, .int (o_I i)] o_N (o_mem g) 1 6 (x_x ["java/lang/IndexOutOfBoundsException"] k (.int (o_I v)) M' P' S' T' g)) : o_Ct l yL_share wL_share (d + 1) o_no [.ref 0, .int (o_I i)] o_N (o_mem g) 1 6 (y_x (.int (o_I (h_c k v [-11]))) M' P' S' T') := by
  refine o_Ct.ofVH hl mL_share (by decide +kernel) rfl rfl (Nat.le_of_ble_eq_true rfl) ?_
  refine o_loc [(0, .ref 0), (1, .int (o_I i))] rfl ?_
  refine o_aload_n dL_share_0 rfl ?_
  refine o_iload_n dL_share_1 rfl ?_
  refine o_callV [.int (o_I i)] (rest := []) hC dL_share_2 ml_L_85 yw_X11_share rfl (by decide) (by omega) (by decide) (by decide) (by decide) rfl rfl rfl (Nat.le_of_ble_eq_true rfl) (fun _ z => z.elim) (fun _ z => z.elim) (Or.inl fun _ z => z) (fun v9 n9 h9 q9 => ?_) (fun E n9 h9 q9 => ?_)
  · obtain ⟨rfl, ⟨g', rfl, hx9⟩, q⟩ := q9
    obtain ⟨hk, q⟩ := q.resolve_right (fun z => by obtain ⟨E', -, -, z⟩ := z; cases z)
    cases q
    refine o_ret1 dL_share_5 trivial ?_
    exact h_ok hk hx9
  · obtain ⟨rfl, ⟨g', rfl, hx9⟩, q⟩ := q9
    rcases q with ⟨-, q⟩ | ⟨E', hk, hE, q⟩
    · cases q
    cases q
    obtain ⟨m9, hm9⟩ : ∃ m9 : Nat, (k - 1).toNat = m9 := ⟨_, rfl⟩
    rw [hm9] at hE
    rcases m9 with _ | m9
    · cases hE
      refine h_onN (k := 2) (pre := []) (suf := []) (a := 0) (b := 5) (hpc := 6) (ct := 29) (i := 2) rfl (fun _ h9 => absurd h9 List.not_mem_nil) ⟨by decide, by decide⟩ (by decide) hl_29 (List.mem_of_getElem? (i := 0) rfl) (by decide) rfl dL_share_6 (List.forall_mem_cons.mpr ⟨⟨(show (0 : Nat) ≠ 2 by decide), fun _ => (show (1 : Nat) ≠ 2 by decide)⟩, List.forall_mem_cons.mpr ⟨⟨(show (1 : Nat) ≠ 2 by decide), fun _ => (show (1 : Nat) ≠ 2 by decide)⟩, (fun _ h9 => absurd h9 List.not_mem_nil)⟩⟩) ?_
      refine o_bipush dL_share_7 (by decide) ?_
      refine o_ret1 dL_share_9 trivial ?_
      exact h_no hk hm9 rfl hx9
    · cases hE
set_option maxRecDepth 100000 in
set_option maxHeartbeats 4000000 in
/-- the law's byRank -/
theorem ct_L_byRank {l : Launch} (hl : l.stackTraces = false) (d : Nat) (g M' : Nat → Nat → Int) (P' : List (Nat → Nat → Int)) (S' : Option (Nat → Nat → Int)) (T' : Nat → Nat → Int) (k v : Int) (i : Int) (hC : o_Ct l yX11_shareByRank wX11_shareByRank d o_no [.ref 0, .int (o_I i)] o_N (o_mem g) 1 6 (x_x ["java/lang/IndexOutOfBoundsException"] k (.int (o_I v)) M' P' S' T' g)) : o_Ct l yL_byRank wL_byRank (d + 1) o_no [.ref 0, .int (o_I i)] o_N (o_mem g) 1 6 (y_x (.int (o_I (h_c k v [-11]))) M' P' S' T') := by
  refine o_Ct.ofVH hl mL_byRank (by decide +kernel) rfl rfl (Nat.le_of_ble_eq_true rfl) ?_
  refine o_loc [(0, .ref 0), (1, .int (o_I i))] rfl ?_
  refine o_aload_n dL_byRank_0 rfl ?_
  refine o_iload_n dL_byRank_1 rfl ?_
  refine o_callV [.int (o_I i)] (rest := []) hC dL_byRank_2 ml_L_88 yw_X11_shareByRank rfl (by decide) (by omega) (by decide) (by decide) (by decide) rfl rfl rfl (Nat.le_of_ble_eq_true rfl) (fun _ z => z.elim) (fun _ z => z.elim) (Or.inl fun _ z => z) (fun v9 n9 h9 q9 => ?_) (fun E n9 h9 q9 => ?_)
  · obtain ⟨rfl, ⟨g', rfl, hx9⟩, q⟩ := q9
    obtain ⟨hk, q⟩ := q.resolve_right (fun z => by obtain ⟨E', -, -, z⟩ := z; cases z)
    cases q
    refine o_ret1 dL_byRank_5 trivial ?_
    exact h_ok hk hx9
  · obtain ⟨rfl, ⟨g', rfl, hx9⟩, q⟩ := q9
    rcases q with ⟨-, q⟩ | ⟨E', hk, hE, q⟩
    · cases q
    cases q
    obtain ⟨m9, hm9⟩ : ∃ m9 : Nat, (k - 1).toNat = m9 := ⟨_, rfl⟩
    rw [hm9] at hE
    rcases m9 with _ | m9
    · cases hE
      refine h_onN (k := 2) (pre := []) (suf := []) (a := 0) (b := 5) (hpc := 6) (ct := 29) (i := 2) rfl (fun _ h9 => absurd h9 List.not_mem_nil) ⟨by decide, by decide⟩ (by decide) hl_29 (List.mem_of_getElem? (i := 0) rfl) (by decide) rfl dL_byRank_6 (List.forall_mem_cons.mpr ⟨⟨(show (0 : Nat) ≠ 2 by decide), fun _ => (show (1 : Nat) ≠ 2 by decide)⟩, List.forall_mem_cons.mpr ⟨⟨(show (1 : Nat) ≠ 2 by decide), fun _ => (show (1 : Nat) ≠ 2 by decide)⟩, (fun _ h9 => absurd h9 List.not_mem_nil)⟩⟩) ?_
      refine o_bipush dL_byRank_7 (by decide) ?_
      refine o_ret1 dL_byRank_9 trivial ?_
      exact h_no hk hm9 rfl hx9
    · cases hE
set_option maxRecDepth 100000 in
set_option maxHeartbeats 4000000 in
/-- the law's byFines -/
theorem ct_L_byFines {l : Launch} (hl : l.stackTraces = false) (d : Nat) (g M' : Nat → Nat → Int) (P' : List (Nat → Nat → Int)) (S' : Option (Nat → Nat → Int)) (T' : Nat → Nat → Int) (k v : Int) (i : Int) (hC : o_Ct l yX11_shipByFines wX11_shipByFines d o_no [.ref 0, .int (o_I i)] o_N (o_mem g) 1 6 (x_x ["java/util/NoSuchElementException"] k (.int (o_I v)) M' P' S' T' g)) : o_Ct l yL_byFines wL_byFines (d + 1) o_no [.ref 0, .int (o_I i)] o_N (o_mem g) 1 6 (y_x (.int (o_I (h_c k v [-13]))) M' P' S' T') := by
  refine o_Ct.ofVH hl mL_byFines (by decide +kernel) rfl rfl (Nat.le_of_ble_eq_true rfl) ?_
  refine o_loc [(0, .ref 0), (1, .int (o_I i))] rfl ?_
  refine o_aload_n dL_byFines_0 rfl ?_
  refine o_iload_n dL_byFines_1 rfl ?_
  refine o_callV [.int (o_I i)] (rest := []) hC dL_byFines_2 ml_L_97 yw_X11_shipByFines rfl (by decide) (by omega) (by decide) (by decide) (by decide) rfl rfl rfl (Nat.le_of_ble_eq_true rfl) (fun _ z => z.elim) (fun _ z => z.elim) (Or.inl fun _ z => z) (fun v9 n9 h9 q9 => ?_) (fun E n9 h9 q9 => ?_)
  · obtain ⟨rfl, ⟨g', rfl, hx9⟩, q⟩ := q9
    obtain ⟨hk, q⟩ := q.resolve_right (fun z => by obtain ⟨E', -, -, z⟩ := z; cases z)
    cases q
    refine o_ret1 dL_byFines_5 trivial ?_
    exact h_ok hk hx9
  · obtain ⟨rfl, ⟨g', rfl, hx9⟩, q⟩ := q9
    rcases q with ⟨-, q⟩ | ⟨E', hk, hE, q⟩
    · cases q
    cases q
    obtain ⟨m9, hm9⟩ : ∃ m9 : Nat, (k - 1).toNat = m9 := ⟨_, rfl⟩
    rw [hm9] at hE
    rcases m9 with _ | m9
    · cases hE
      refine h_onN (k := 2) (pre := []) (suf := []) (a := 0) (b := 5) (hpc := 6) (ct := 37) (i := 2) rfl (fun _ h9 => absurd h9 List.not_mem_nil) ⟨by decide, by decide⟩ (by decide) hl_37 (List.mem_of_getElem? (i := 3) rfl) (by decide) rfl dL_byFines_6 (List.forall_mem_cons.mpr ⟨⟨(show (0 : Nat) ≠ 2 by decide), fun _ => (show (1 : Nat) ≠ 2 by decide)⟩, List.forall_mem_cons.mpr ⟨⟨(show (1 : Nat) ≠ 2 by decide), fun _ => (show (1 : Nat) ≠ 2 by decide)⟩, (fun _ h9 => absurd h9 List.not_mem_nil)⟩⟩) ?_
      refine o_bipush dL_byFines_7 (by decide) ?_
      refine o_ret1 dL_byFines_9 trivial ?_
      exact h_no hk hm9 rfl hx9
    · cases hE
set_option maxRecDepth 100000 in
set_option maxHeartbeats 4000000 in
/-- the law's fines -/
theorem ct_L_fines {l : Launch} (hl : l.stackTraces = false) (d : Nat) (g M' : Nat → Nat → Int) (P' : List (Nat → Nat → Int)) (S' : Option (Nat → Nat → Int)) (T' : Nat → Nat → Int) (k v : Int) (i : Int) (hC : o_Ct l yX11_finesPaid wX11_finesPaid d o_no [.ref 0, .int (o_I i)] o_N (o_mem g) 1 6 (x_x ["java/lang/IndexOutOfBoundsException"] k (.int (o_I v)) M' P' S' T' g)) : o_Ct l yL_fines wL_fines (d + 1) o_no [.ref 0, .int (o_I i)] o_N (o_mem g) 1 6 (y_x (.int (o_I (h_c k v [-11]))) M' P' S' T') := by
  refine o_Ct.ofVH hl mL_fines (by decide +kernel) rfl rfl (Nat.le_of_ble_eq_true rfl) ?_
  refine o_loc [(0, .ref 0), (1, .int (o_I i))] rfl ?_
  refine o_aload_n dL_fines_0 rfl ?_
  refine o_iload_n dL_fines_1 rfl ?_
  refine o_callV [.int (o_I i)] (rest := []) hC dL_fines_2 ml_L_48 yw_X11_finesPaid rfl (by decide) (by omega) (by decide) (by decide) (by decide) rfl rfl rfl (Nat.le_of_ble_eq_true rfl) (fun _ z => z.elim) (fun _ z => z.elim) (Or.inl fun _ z => z) (fun v9 n9 h9 q9 => ?_) (fun E n9 h9 q9 => ?_)
  · obtain ⟨rfl, ⟨g', rfl, hx9⟩, q⟩ := q9
    obtain ⟨hk, q⟩ := q.resolve_right (fun z => by obtain ⟨E', -, -, z⟩ := z; cases z)
    cases q
    refine o_ret1 dL_fines_5 trivial ?_
    exact h_ok hk hx9
  · obtain ⟨rfl, ⟨g', rfl, hx9⟩, q⟩ := q9
    rcases q with ⟨-, q⟩ | ⟨E', hk, hE, q⟩
    · cases q
    cases q
    obtain ⟨m9, hm9⟩ : ∃ m9 : Nat, (k - 1).toNat = m9 := ⟨_, rfl⟩
    rw [hm9] at hE
    rcases m9 with _ | m9
    · cases hE
      refine h_onN (k := 2) (pre := []) (suf := []) (a := 0) (b := 5) (hpc := 6) (ct := 29) (i := 2) rfl (fun _ h9 => absurd h9 List.not_mem_nil) ⟨by decide, by decide⟩ (by decide) hl_29 (List.mem_of_getElem? (i := 0) rfl) (by decide) rfl dL_fines_6 (List.forall_mem_cons.mpr ⟨⟨(show (0 : Nat) ≠ 2 by decide), fun _ => (show (1 : Nat) ≠ 2 by decide)⟩, List.forall_mem_cons.mpr ⟨⟨(show (1 : Nat) ≠ 2 by decide), fun _ => (show (1 : Nat) ≠ 2 by decide)⟩, (fun _ h9 => absurd h9 List.not_mem_nil)⟩⟩) ?_
      refine o_bipush dL_fines_7 (by decide) ?_
      refine o_ret1 dL_fines_9 trivial ?_
      exact h_no hk hm9 rfl hx9
    · cases hE
set_option maxRecDepth 100000 in
set_option maxHeartbeats 4000000 in
/-- the law's coins -/
theorem ct_L_coins {l : Launch} (hl : l.stackTraces = false) (d : Nat) (g M' : Nat → Nat → Int) (P' : List (Nat → Nat → Int)) (S' : Option (Nat → Nat → Int)) (T' : Nat → Nat → Int) (k v : Int) (i : Int) (hC : o_Ct l yX11_coins wX11_coins d o_no [.ref 0, .int (o_I i)] o_N (o_mem g) 1 6 (x_x ["java/lang/IndexOutOfBoundsException"] k (.int (o_I v)) M' P' S' T' g)) : o_Ct l yL_coins wL_coins (d + 1) o_no [.ref 0, .int (o_I i)] o_N (o_mem g) 1 6 (y_x (.int (o_I (h_c k v [-11]))) M' P' S' T') := by
  refine o_Ct.ofVH hl mL_coins (by decide +kernel) rfl rfl (Nat.le_of_ble_eq_true rfl) ?_
  refine o_loc [(0, .ref 0), (1, .int (o_I i))] rfl ?_
  refine o_aload_n dL_coins_0 rfl ?_
  refine o_iload_n dL_coins_1 rfl ?_
  refine o_callV [.int (o_I i)] (rest := []) hC dL_coins_2 ml_L_45 yw_X11_coins rfl (by decide) (by omega) (by decide) (by decide) (by decide) rfl rfl rfl (Nat.le_of_ble_eq_true rfl) (fun _ z => z.elim) (fun _ z => z.elim) (Or.inl fun _ z => z) (fun v9 n9 h9 q9 => ?_) (fun E n9 h9 q9 => ?_)
  · obtain ⟨rfl, ⟨g', rfl, hx9⟩, q⟩ := q9
    obtain ⟨hk, q⟩ := q.resolve_right (fun z => by obtain ⟨E', -, -, z⟩ := z; cases z)
    cases q
    refine o_ret1 dL_coins_5 trivial ?_
    exact h_ok hk hx9
  · obtain ⟨rfl, ⟨g', rfl, hx9⟩, q⟩ := q9
    rcases q with ⟨-, q⟩ | ⟨E', hk, hE, q⟩
    · cases q
    cases q
    obtain ⟨m9, hm9⟩ : ∃ m9 : Nat, (k - 1).toNat = m9 := ⟨_, rfl⟩
    rw [hm9] at hE
    rcases m9 with _ | m9
    · cases hE
      refine h_onN (k := 2) (pre := []) (suf := []) (a := 0) (b := 5) (hpc := 6) (ct := 29) (i := 2) rfl (fun _ h9 => absurd h9 List.not_mem_nil) ⟨by decide, by decide⟩ (by decide) hl_29 (List.mem_of_getElem? (i := 0) rfl) (by decide) rfl dL_coins_6 (List.forall_mem_cons.mpr ⟨⟨(show (0 : Nat) ≠ 2 by decide), fun _ => (show (1 : Nat) ≠ 2 by decide)⟩, List.forall_mem_cons.mpr ⟨⟨(show (1 : Nat) ≠ 2 by decide), fun _ => (show (1 : Nat) ≠ 2 by decide)⟩, (fun _ h9 => absurd h9 List.not_mem_nil)⟩⟩) ?_
      refine o_bipush dL_coins_7 (by decide) ?_
      refine o_ret1 dL_coins_9 trivial ?_
      exact h_no hk hm9 rfl hx9
    · cases hE
set_option maxRecDepth 100000 in
set_option maxHeartbeats 4000000 in
/-- the law's demand -/
theorem ct_L_demand {l : Launch} (hl : l.stackTraces = false) (d : Nat) (g M' : Nat → Nat → Int) (P' : List (Nat → Nat → Int)) (S' : Option (Nat → Nat → Int)) (T' : Nat → Nat → Int) (k v : Int) (i : Int) (hC : o_Ct l yX11_demand wX11_demand d o_no [.ref 0, .int (o_I i)] o_N (o_mem g) 1 6 (x_x ["java/lang/IndexOutOfBoundsException"] k (.int (o_I v)) M' P' S' T' g)) : o_Ct l yL_demand wL_demand (d + 1) o_no [.ref 0, .int (o_I i)] o_N (o_mem g) 1 6 (y_x (.int (o_I (h_c k v [-11]))) M' P' S' T') := by
  refine o_Ct.ofVH hl mL_demand (by decide +kernel) rfl rfl (Nat.le_of_ble_eq_true rfl) ?_
  refine o_loc [(0, .ref 0), (1, .int (o_I i))] rfl ?_
  refine o_aload_n dL_demand_0 rfl ?_
  refine o_iload_n dL_demand_1 rfl ?_
  refine o_callV [.int (o_I i)] (rest := []) hC dL_demand_2 ml_L_54 yw_X11_demand rfl (by decide) (by omega) (by decide) (by decide) (by decide) rfl rfl rfl (Nat.le_of_ble_eq_true rfl) (fun _ z => z.elim) (fun _ z => z.elim) (Or.inl fun _ z => z) (fun v9 n9 h9 q9 => ?_) (fun E n9 h9 q9 => ?_)
  · obtain ⟨rfl, ⟨g', rfl, hx9⟩, q⟩ := q9
    obtain ⟨hk, q⟩ := q.resolve_right (fun z => by obtain ⟨E', -, -, z⟩ := z; cases z)
    cases q
    refine o_ret1 dL_demand_5 trivial ?_
    exact h_ok hk hx9
  · obtain ⟨rfl, ⟨g', rfl, hx9⟩, q⟩ := q9
    rcases q with ⟨-, q⟩ | ⟨E', hk, hE, q⟩
    · cases q
    cases q
    obtain ⟨m9, hm9⟩ : ∃ m9 : Nat, (k - 1).toNat = m9 := ⟨_, rfl⟩
    rw [hm9] at hE
    rcases m9 with _ | m9
    · cases hE
      refine h_onN (k := 2) (pre := []) (suf := []) (a := 0) (b := 5) (hpc := 6) (ct := 29) (i := 2) rfl (fun _ h9 => absurd h9 List.not_mem_nil) ⟨by decide, by decide⟩ (by decide) hl_29 (List.mem_of_getElem? (i := 0) rfl) (by decide) rfl dL_demand_6 (List.forall_mem_cons.mpr ⟨⟨(show (0 : Nat) ≠ 2 by decide), fun _ => (show (1 : Nat) ≠ 2 by decide)⟩, List.forall_mem_cons.mpr ⟨⟨(show (1 : Nat) ≠ 2 by decide), fun _ => (show (1 : Nat) ≠ 2 by decide)⟩, (fun _ h9 => absurd h9 List.not_mem_nil)⟩⟩) ?_
      refine o_bipush dL_demand_7 (by decide) ?_
      refine o_ret1 dL_demand_9 trivial ?_
      exact h_no hk hm9 rfl hx9
    · cases hE
set_option maxRecDepth 100000 in
set_option maxHeartbeats 4000000 in
/-- the law's leases -/
theorem ct_L_leases {l : Launch} (hl : l.stackTraces = false) (d : Nat) (g M' : Nat → Nat → Int) (P' : List (Nat → Nat → Int)) (S' : Option (Nat → Nat → Int)) (T' : Nat → Nat → Int) (k v : Int) (i : Int) (hC : o_Ct l yX11_leasesOf wX11_leasesOf d o_no [.ref 0, .int (o_I i)] o_N (o_mem g) 1 6 (x_x ["java/lang/IndexOutOfBoundsException"] k (.int (o_I v)) M' P' S' T' g)) : o_Ct l yL_leases wL_leases (d + 1) o_no [.ref 0, .int (o_I i)] o_N (o_mem g) 1 6 (y_x (.int (o_I (h_c k v [-11]))) M' P' S' T') := by
  refine o_Ct.ofVH hl mL_leases (by decide +kernel) rfl rfl (Nat.le_of_ble_eq_true rfl) ?_
  refine o_loc [(0, .ref 0), (1, .int (o_I i))] rfl ?_
  refine o_aload_n dL_leases_0 rfl ?_
  refine o_iload_n dL_leases_1 rfl ?_
  refine o_callV [.int (o_I i)] (rest := []) hC dL_leases_2 ml_L_57 yw_X11_leasesOf rfl (by decide) (by omega) (by decide) (by decide) (by decide) rfl rfl rfl (Nat.le_of_ble_eq_true rfl) (fun _ z => z.elim) (fun _ z => z.elim) (Or.inl fun _ z => z) (fun v9 n9 h9 q9 => ?_) (fun E n9 h9 q9 => ?_)
  · obtain ⟨rfl, ⟨g', rfl, hx9⟩, q⟩ := q9
    obtain ⟨hk, q⟩ := q.resolve_right (fun z => by obtain ⟨E', -, -, z⟩ := z; cases z)
    cases q
    refine o_ret1 dL_leases_5 trivial ?_
    exact h_ok hk hx9
  · obtain ⟨rfl, ⟨g', rfl, hx9⟩, q⟩ := q9
    rcases q with ⟨-, q⟩ | ⟨E', hk, hE, q⟩
    · cases q
    cases q
    obtain ⟨m9, hm9⟩ : ∃ m9 : Nat, (k - 1).toNat = m9 := ⟨_, rfl⟩
    rw [hm9] at hE
    rcases m9 with _ | m9
    · cases hE
      refine h_onN (k := 2) (pre := []) (suf := []) (a := 0) (b := 5) (hpc := 6) (ct := 29) (i := 2) rfl (fun _ h9 => absurd h9 List.not_mem_nil) ⟨by decide, by decide⟩ (by decide) hl_29 (List.mem_of_getElem? (i := 0) rfl) (by decide) rfl dL_leases_6 (List.forall_mem_cons.mpr ⟨⟨(show (0 : Nat) ≠ 2 by decide), fun _ => (show (1 : Nat) ≠ 2 by decide)⟩, List.forall_mem_cons.mpr ⟨⟨(show (1 : Nat) ≠ 2 by decide), fun _ => (show (1 : Nat) ≠ 2 by decide)⟩, (fun _ h9 => absurd h9 List.not_mem_nil)⟩⟩) ?_
      refine o_bipush dL_leases_7 (by decide) ?_
      refine o_ret1 dL_leases_9 trivial ?_
      exact h_no hk hm9 rfl hx9
    · cases hE
set_option maxRecDepth 100000 in
set_option maxHeartbeats 4000000 in
/-- the law's dark -/
theorem ct_L_dark {l : Launch} (hl : l.stackTraces = false) (d : Nat) (g M' : Nat → Nat → Int) (P' : List (Nat → Nat → Int)) (S' : Option (Nat → Nat → Int)) (T' : Nat → Nat → Int) (k v : Int) (i : Int) (hC : o_Ct l yX11_darkHours wX11_darkHours d o_no [.ref 0, .int (o_I i)] o_N (o_mem g) 1 6 (x_x ["java/lang/IndexOutOfBoundsException"] k (.int (o_I v)) M' P' S' T' g)) : o_Ct l yL_dark wL_dark (d + 1) o_no [.ref 0, .int (o_I i)] o_N (o_mem g) 1 6 (y_x (.int (o_I (h_c k v [-11]))) M' P' S' T') := by
  refine o_Ct.ofVH hl mL_dark (by decide +kernel) rfl rfl (Nat.le_of_ble_eq_true rfl) ?_
  refine o_loc [(0, .ref 0), (1, .int (o_I i))] rfl ?_
  refine o_aload_n dL_dark_0 rfl ?_
  refine o_iload_n dL_dark_1 rfl ?_
  refine o_callV [.int (o_I i)] (rest := []) hC dL_dark_2 ml_L_51 yw_X11_darkHours rfl (by decide) (by omega) (by decide) (by decide) (by decide) rfl rfl rfl (Nat.le_of_ble_eq_true rfl) (fun _ z => z.elim) (fun _ z => z.elim) (Or.inl fun _ z => z) (fun v9 n9 h9 q9 => ?_) (fun E n9 h9 q9 => ?_)
  · obtain ⟨rfl, ⟨g', rfl, hx9⟩, q⟩ := q9
    obtain ⟨hk, q⟩ := q.resolve_right (fun z => by obtain ⟨E', -, -, z⟩ := z; cases z)
    cases q
    refine o_ret1 dL_dark_5 trivial ?_
    exact h_ok hk hx9
  · obtain ⟨rfl, ⟨g', rfl, hx9⟩, q⟩ := q9
    rcases q with ⟨-, q⟩ | ⟨E', hk, hE, q⟩
    · cases q
    cases q
    obtain ⟨m9, hm9⟩ : ∃ m9 : Nat, (k - 1).toNat = m9 := ⟨_, rfl⟩
    rw [hm9] at hE
    rcases m9 with _ | m9
    · cases hE
      refine h_onN (k := 2) (pre := []) (suf := []) (a := 0) (b := 5) (hpc := 6) (ct := 29) (i := 2) rfl (fun _ h9 => absurd h9 List.not_mem_nil) ⟨by decide, by decide⟩ (by decide) hl_29 (List.mem_of_getElem? (i := 0) rfl) (by decide) rfl dL_dark_6 (List.forall_mem_cons.mpr ⟨⟨(show (0 : Nat) ≠ 2 by decide), fun _ => (show (1 : Nat) ≠ 2 by decide)⟩, List.forall_mem_cons.mpr ⟨⟨(show (1 : Nat) ≠ 2 by decide), fun _ => (show (1 : Nat) ≠ 2 by decide)⟩, (fun _ h9 => absurd h9 List.not_mem_nil)⟩⟩) ?_
      refine o_bipush dL_dark_7 (by decide) ?_
      refine o_ret1 dL_dark_9 trivial ?_
      exact h_no hk hm9 rfl hx9
    · cases hE
set_option maxRecDepth 100000 in
set_option maxHeartbeats 4000000 in
/-- the law's end -/
theorem ct_L_end {l : Launch} (hl : l.stackTraces = false) (d : Nat) (g M' : Nat → Nat → Int) (P' : List (Nat → Nat → Int)) (S' : Option (Nat → Nat → Int)) (T' : Nat → Nat → Int) (k v : Int) (i : Int) (hC : o_Ct l yX11_endHour wX11_endHour d o_no [.ref 0, .int (o_I i)] o_N (o_mem g) 1 6 (x_x ["java/lang/IndexOutOfBoundsException", "java/util/NoSuchElementException"] k (.int (o_I v)) M' P' S' T' g)) : o_Ct l yL_end wL_end (d + 1) o_no [.ref 0, .int (o_I i)] o_N (o_mem g) 1 6 (y_x (.int (o_I (h_c k v [-11, -13]))) M' P' S' T') := by
  refine o_Ct.ofVH hl mL_end (by decide +kernel) rfl rfl (Nat.le_of_ble_eq_true rfl) ?_
  refine o_loc [(0, .ref 0), (1, .int (o_I i))] rfl ?_
  refine o_aload_n dL_end_0 rfl ?_
  refine o_iload_n dL_end_1 rfl ?_
  refine o_callV [.int (o_I i)] (rest := []) hC dL_end_2 ml_L_70 yw_X11_endHour rfl (by decide) (by omega) (by decide) (by decide) (by decide) rfl rfl rfl (Nat.le_of_ble_eq_true rfl) (fun _ z => z.elim) (fun _ z => z.elim) (Or.inl fun _ z => z) (fun v9 n9 h9 q9 => ?_) (fun E n9 h9 q9 => ?_)
  · obtain ⟨rfl, ⟨g', rfl, hx9⟩, q⟩ := q9
    obtain ⟨hk, q⟩ := q.resolve_right (fun z => by obtain ⟨E', -, -, z⟩ := z; cases z)
    cases q
    refine o_ret1 dL_end_5 trivial ?_
    exact h_ok hk hx9
  · obtain ⟨rfl, ⟨g', rfl, hx9⟩, q⟩ := q9
    rcases q with ⟨-, q⟩ | ⟨E', hk, hE, q⟩
    · cases q
    cases q
    obtain ⟨m9, hm9⟩ : ∃ m9 : Nat, (k - 1).toNat = m9 := ⟨_, rfl⟩
    rw [hm9] at hE
    rcases m9 with _ | m9
    · cases hE
      refine h_onN (k := 2) (pre := []) (suf := [(0, 5, 10, 37)]) (a := 0) (b := 5) (hpc := 6) (ct := 29) (i := 2) rfl (fun _ h9 => absurd h9 List.not_mem_nil) ⟨by decide, by decide⟩ (by decide) hl_29 (List.mem_of_getElem? (i := 0) rfl) (by decide) rfl dL_end_6 (List.forall_mem_cons.mpr ⟨⟨(show (0 : Nat) ≠ 2 by decide), fun _ => (show (1 : Nat) ≠ 2 by decide)⟩, List.forall_mem_cons.mpr ⟨⟨(show (1 : Nat) ≠ 2 by decide), fun _ => (show (1 : Nat) ≠ 2 by decide)⟩, (fun _ h9 => absurd h9 List.not_mem_nil)⟩⟩) ?_
      refine o_bipush dL_end_7 (by decide) ?_
      refine o_ret1 dL_end_9 trivial ?_
      exact h_no hk hm9 rfl hx9
    rcases m9 with _ | m9
    · cases hE
      refine h_onN (k := 2) (pre := [(0, 5, 6, 29)]) (suf := []) (a := 0) (b := 5) (hpc := 10) (ct := 37) (i := 2) rfl (List.forall_mem_cons.mpr ⟨⟨by decide, _, hl_29, List.mem_of_getElem? (i := 6) rfl⟩, (fun _ h9 => absurd h9 List.not_mem_nil)⟩) ⟨by decide, by decide⟩ (by decide) hl_37 (List.mem_of_getElem? (i := 3) rfl) (by decide) rfl dL_end_10 (List.forall_mem_cons.mpr ⟨⟨(show (0 : Nat) ≠ 2 by decide), fun _ => (show (1 : Nat) ≠ 2 by decide)⟩, List.forall_mem_cons.mpr ⟨⟨(show (1 : Nat) ≠ 2 by decide), fun _ => (show (1 : Nat) ≠ 2 by decide)⟩, (fun _ h9 => absurd h9 List.not_mem_nil)⟩⟩) ?_
      refine o_bipush dL_end_11 (by decide) ?_
      refine o_ret1 dL_end_13 trivial ?_
      exact h_no hk hm9 rfl hx9
    · cases hE
set_option maxRecDepth 100000 in
set_option maxHeartbeats 4000000 in
/-- the law's isLeased -/
theorem ct_L_isLeased {l : Launch} (hl : l.stackTraces = false) (d : Nat) (g M' : Nat → Nat → Int) (P' : List (Nat → Nat → Int)) (S' : Option (Nat → Nat → Int)) (T' : Nat → Nat → Int) (k v : Int) (hv : v = 0 ∨ v = 1) (i : Int) (hC : o_Ct l yX11_isLeased wX11_isLeased d o_no [.ref 0, .int (o_I i)] o_N (o_mem g) 1 6 (x_x ["java/lang/IndexOutOfBoundsException"] k (.int (o_I v)) M' P' S' T' g)) : o_Ct l yL_isLeased wL_isLeased (d + 1) o_no [.ref 0, .int (o_I i)] o_N (o_mem g) 1 6 (y_x (.int (o_I (h_c k v [-11]))) M' P' S' T') := by
  refine o_Ct.ofVH hl mL_isLeased (by decide +kernel) rfl rfl (Nat.le_of_ble_eq_true rfl) ?_
  refine o_loc [(0, .ref 0), (1, .int (o_I i))] rfl ?_
  refine o_aload_n dL_isLeased_0 rfl ?_
  refine o_iload_n dL_isLeased_1 rfl ?_
  refine o_callV [.int (o_I i)] (rest := []) hC dL_isLeased_2 ml_L_63 yw_X11_isLeased rfl (by decide) (by omega) (by decide) (by decide) (by decide) rfl rfl rfl (Nat.le_of_ble_eq_true rfl) (fun _ z => z.elim) (fun _ z => z.elim) (Or.inl fun _ z => z) (fun v9 n9 h9 q9 => ?_) (fun E n9 h9 q9 => ?_)
  · obtain ⟨rfl, ⟨g', rfl, hx9⟩, q⟩ := q9
    obtain ⟨hk, q⟩ := q.resolve_right (fun z => by obtain ⟨E', -, -, z⟩ := z; cases z)
    cases q
    refine o_if_eq (tgt := 12) dL_isLeased_5 (by decide) ⟨by omega, by omega⟩ (fun c9 => ?_) (fun c9 => ?_)
    · refine o_iconst dL_isLeased_12 ?_
      refine o_ret1 dL_isLeased_13 trivial ?_
      rw [show (0 : Int) = v by omega]
      exact h_ok hk hx9
    · refine o_iconst dL_isLeased_8 ?_
      refine o_goto (tgt := 13) dL_isLeased_9 (by decide) ?_
      refine o_ret1 dL_isLeased_13 trivial ?_
      rw [show (1 : Int) = v by omega]
      exact h_ok hk hx9
  · obtain ⟨rfl, ⟨g', rfl, hx9⟩, q⟩ := q9
    rcases q with ⟨-, q⟩ | ⟨E', hk, hE, q⟩
    · cases q
    cases q
    obtain ⟨m9, hm9⟩ : ∃ m9 : Nat, (k - 1).toNat = m9 := ⟨_, rfl⟩
    rw [hm9] at hE
    rcases m9 with _ | m9
    · cases hE
      refine h_onN (k := 2) (pre := []) (suf := []) (a := 0) (b := 13) (hpc := 14) (ct := 29) (i := 2) rfl (fun _ h9 => absurd h9 List.not_mem_nil) ⟨by decide, by decide⟩ (by decide) hl_29 (List.mem_of_getElem? (i := 0) rfl) (by decide) rfl dL_isLeased_14 (List.forall_mem_cons.mpr ⟨⟨(show (0 : Nat) ≠ 2 by decide), fun _ => (show (1 : Nat) ≠ 2 by decide)⟩, List.forall_mem_cons.mpr ⟨⟨(show (1 : Nat) ≠ 2 by decide), fun _ => (show (1 : Nat) ≠ 2 by decide)⟩, (fun _ h9 => absurd h9 List.not_mem_nil)⟩⟩) ?_
      refine o_bipush dL_isLeased_15 (by decide) ?_
      refine o_ret1 dL_isLeased_17 trivial ?_
      exact h_no hk hm9 rfl hx9
    · cases hE
set_option maxRecDepth 100000 in
set_option maxHeartbeats 4000000 in
/-- the law's level -/
theorem ct_L_level {l : Launch} (hl : l.stackTraces = false) (d : Nat) (g M' : Nat → Nat → Int) (P' : List (Nat → Nat → Int)) (S' : Option (Nat → Nat → Int)) (T' : Nat → Nat → Int) (k v : Int) (i : Int) (hC : o_Ct l yX11_level wX11_level d o_no [.ref 0, .int (o_I i)] o_N (o_mem g) 1 6 (x_x ["java/lang/IndexOutOfBoundsException"] k (.int (o_I v)) M' P' S' T' g)) : o_Ct l yL_level wL_level (d + 1) o_no [.ref 0, .int (o_I i)] o_N (o_mem g) 1 6 (y_x (.int (o_I (h_c k v [-11]))) M' P' S' T') := by
  refine o_Ct.ofVH hl mL_level (by decide +kernel) rfl rfl (Nat.le_of_ble_eq_true rfl) ?_
  refine o_loc [(0, .ref 0), (1, .int (o_I i))] rfl ?_
  refine o_aload_n dL_level_0 rfl ?_
  refine o_iload_n dL_level_1 rfl ?_
  refine o_callV [.int (o_I i)] (rest := []) hC dL_level_2 ml_L_60 yw_X11_level rfl (by decide) (by omega) (by decide) (by decide) (by decide) rfl rfl rfl (Nat.le_of_ble_eq_true rfl) (fun _ z => z.elim) (fun _ z => z.elim) (Or.inl fun _ z => z) (fun v9 n9 h9 q9 => ?_) (fun E n9 h9 q9 => ?_)
  · obtain ⟨rfl, ⟨g', rfl, hx9⟩, q⟩ := q9
    obtain ⟨hk, q⟩ := q.resolve_right (fun z => by obtain ⟨E', -, -, z⟩ := z; cases z)
    cases q
    refine o_ret1 dL_level_5 trivial ?_
    exact h_ok hk hx9
  · obtain ⟨rfl, ⟨g', rfl, hx9⟩, q⟩ := q9
    rcases q with ⟨-, q⟩ | ⟨E', hk, hE, q⟩
    · cases q
    cases q
    obtain ⟨m9, hm9⟩ : ∃ m9 : Nat, (k - 1).toNat = m9 := ⟨_, rfl⟩
    rw [hm9] at hE
    rcases m9 with _ | m9
    · cases hE
      refine h_onN (k := 2) (pre := []) (suf := []) (a := 0) (b := 5) (hpc := 6) (ct := 29) (i := 2) rfl (fun _ h9 => absurd h9 List.not_mem_nil) ⟨by decide, by decide⟩ (by decide) hl_29 (List.mem_of_getElem? (i := 0) rfl) (by decide) rfl dL_level_6 (List.forall_mem_cons.mpr ⟨⟨(show (0 : Nat) ≠ 2 by decide), fun _ => (show (1 : Nat) ≠ 2 by decide)⟩, List.forall_mem_cons.mpr ⟨⟨(show (1 : Nat) ≠ 2 by decide), fun _ => (show (1 : Nat) ≠ 2 by decide)⟩, (fun _ h9 => absurd h9 List.not_mem_nil)⟩⟩) ?_
      refine o_bipush dL_level_7 (by decide) ?_
      refine o_ret1 dL_level_9 trivial ?_
      exact h_no hk hm9 rfl hx9
    · cases hE
set_option maxRecDepth 100000 in
set_option maxHeartbeats 4000000 in
/-- the law's hoursOfOil -/
theorem ct_L_hoursOfOil {l : Launch} (hl : l.stackTraces = false) (d : Nat) (g M' : Nat → Nat → Int) (P' : List (Nat → Nat → Int)) (S' : Option (Nat → Nat → Int)) (T' : Nat → Nat → Int) (k v : Int) (hC : o_Ct l yX11_hoursOfOil wX11_hoursOfOil d o_no [.ref 0] o_N (o_mem g) 1 6 (x_x ["java/util/NoSuchElementException"] k (.int (o_I v)) M' P' S' T' g)) : o_Ct l yL_hoursOfOil wL_hoursOfOil (d + 1) o_no [.ref 0] o_N (o_mem g) 1 6 (y_x (.int (o_I (h_c k v [-13]))) M' P' S' T') := by
  refine o_Ct.ofVH hl mL_hoursOfOil (by decide +kernel) rfl rfl (Nat.le_of_ble_eq_true rfl) ?_
  refine o_loc [(0, .ref 0)] rfl ?_
  refine o_aload_n dL_hoursOfOil_0 rfl ?_
  refine o_callV [] (rest := []) hC dL_hoursOfOil_1 ml_L_79 yw_X11_hoursOfOil rfl (by decide) (by omega) (by decide) (by decide) (by decide) rfl rfl rfl (Nat.le_of_ble_eq_true rfl) (fun _ z => z.elim) (fun _ z => z.elim) (Or.inl fun _ z => z) (fun v9 n9 h9 q9 => ?_) (fun E n9 h9 q9 => ?_)
  · obtain ⟨rfl, ⟨g', rfl, hx9⟩, q⟩ := q9
    obtain ⟨hk, q⟩ := q.resolve_right (fun z => by obtain ⟨E', -, -, z⟩ := z; cases z)
    cases q
    refine o_ret1 dL_hoursOfOil_4 trivial ?_
    exact h_ok hk hx9
  · obtain ⟨rfl, ⟨g', rfl, hx9⟩, q⟩ := q9
    rcases q with ⟨-, q⟩ | ⟨E', hk, hE, q⟩
    · cases q
    cases q
    obtain ⟨m9, hm9⟩ : ∃ m9 : Nat, (k - 1).toNat = m9 := ⟨_, rfl⟩
    rw [hm9] at hE
    rcases m9 with _ | m9
    · cases hE
      refine h_onN (k := 1) (pre := []) (suf := []) (a := 0) (b := 4) (hpc := 5) (ct := 37) (i := 1) rfl (fun _ h9 => absurd h9 List.not_mem_nil) ⟨by decide, by decide⟩ (by decide) hl_37 (List.mem_of_getElem? (i := 3) rfl) (by decide) rfl dL_hoursOfOil_5 (List.forall_mem_cons.mpr ⟨⟨(show (0 : Nat) ≠ 1 by decide), fun _ => (show (1 : Nat) ≠ 2 by decide)⟩, (fun _ h9 => absurd h9 List.not_mem_nil)⟩) ?_
      refine o_bipush dL_hoursOfOil_6 (by decide) ?_
      refine o_ret1 dL_hoursOfOil_8 trivial ?_
      exact h_no hk hm9 rfl hx9
    · cases hE
set_option maxRecDepth 100000 in
set_option maxHeartbeats 4000000 in
/-- the law's byEnds -/
theorem ct_L_byEnds {l : Launch} (hl : l.stackTraces = false) (d : Nat) (g M' : Nat → Nat → Int) (P' : List (Nat → Nat → Int)) (S' : Option (Nat → Nat → Int)) (T' : Nat → Nat → Int) (k v : Int) (hC : o_Ct l yX11_hoursOfOilByEnds wX11_hoursOfOilByEnds d o_no [.ref 0] o_N (o_mem g) 1 6 (x_x ["java/util/NoSuchElementException"] k (.int (o_I v)) M' P' S' T' g)) : o_Ct l yL_byEnds wL_byEnds (d + 1) o_no [.ref 0] o_N (o_mem g) 1 6 (y_x (.int (o_I (h_c k v [-13]))) M' P' S' T') := by
  refine o_Ct.ofVH hl mL_byEnds (by decide +kernel) rfl rfl (Nat.le_of_ble_eq_true rfl) ?_
  refine o_loc [(0, .ref 0)] rfl ?_
  refine o_aload_n dL_byEnds_0 rfl ?_
  refine o_callV [] (rest := []) hC dL_byEnds_1 ml_L_82 yw_X11_hoursOfOilByEnds rfl (by decide) (by omega) (by decide) (by decide) (by decide) rfl rfl rfl (Nat.le_of_ble_eq_true rfl) (fun _ z => z.elim) (fun _ z => z.elim) (Or.inl fun _ z => z) (fun v9 n9 h9 q9 => ?_) (fun E n9 h9 q9 => ?_)
  · obtain ⟨rfl, ⟨g', rfl, hx9⟩, q⟩ := q9
    obtain ⟨hk, q⟩ := q.resolve_right (fun z => by obtain ⟨E', -, -, z⟩ := z; cases z)
    cases q
    refine o_ret1 dL_byEnds_4 trivial ?_
    exact h_ok hk hx9
  · obtain ⟨rfl, ⟨g', rfl, hx9⟩, q⟩ := q9
    rcases q with ⟨-, q⟩ | ⟨E', hk, hE, q⟩
    · cases q
    cases q
    obtain ⟨m9, hm9⟩ : ∃ m9 : Nat, (k - 1).toNat = m9 := ⟨_, rfl⟩
    rw [hm9] at hE
    rcases m9 with _ | m9
    · cases hE
      refine h_onN (k := 1) (pre := []) (suf := []) (a := 0) (b := 4) (hpc := 5) (ct := 37) (i := 1) rfl (fun _ h9 => absurd h9 List.not_mem_nil) ⟨by decide, by decide⟩ (by decide) hl_37 (List.mem_of_getElem? (i := 3) rfl) (by decide) rfl dL_byEnds_5 (List.forall_mem_cons.mpr ⟨⟨(show (0 : Nat) ≠ 1 by decide), fun _ => (show (1 : Nat) ≠ 2 by decide)⟩, (fun _ h9 => absurd h9 List.not_mem_nil)⟩) ?_
      refine o_bipush dL_byEnds_6 (by decide) ?_
      refine o_ret1 dL_byEnds_8 trivial ?_
      exact h_no hk hm9 rfl hx9
    · cases hE
set_option maxRecDepth 100000 in
set_option maxHeartbeats 4000000 in
/-- the law's bright -/
theorem ct_L_bright {l : Launch} (hl : l.stackTraces = false) (d : Nat) (g M' : Nat → Nat → Int) (P' : List (Nat → Nat → Int)) (S' : Option (Nat → Nat → Int)) (T' : Nat → Nat → Int) (k v : Int) (i : Int) (hC : o_Ct l yX11_brightHours wX11_brightHours d o_no [.ref 0, .int (o_I i)] o_N (o_mem g) 1 6 (x_x ["java/lang/IndexOutOfBoundsException"] k (.int (o_I v)) M' P' S' T' g)) : o_Ct l yL_bright wL_bright (d + 1) o_no [.ref 0, .int (o_I i)] o_N (o_mem g) 1 6 (y_x (.int (o_I (h_c k v [-11]))) M' P' S' T') := by
  refine o_Ct.ofVH hl mL_bright (by decide +kernel) rfl rfl (Nat.le_of_ble_eq_true rfl) ?_
  refine o_loc [(0, .ref 0), (1, .int (o_I i))] rfl ?_
  refine o_aload_n dL_bright_0 rfl ?_
  refine o_iload_n dL_bright_1 rfl ?_
  refine o_callV [.int (o_I i)] (rest := []) hC dL_bright_2 ml_L_73 yw_X11_brightHours rfl (by decide) (by omega) (by decide) (by decide) (by decide) rfl rfl rfl (Nat.le_of_ble_eq_true rfl) (fun _ z => z.elim) (fun _ z => z.elim) (Or.inl fun _ z => z) (fun v9 n9 h9 q9 => ?_) (fun E n9 h9 q9 => ?_)
  · obtain ⟨rfl, ⟨g', rfl, hx9⟩, q⟩ := q9
    obtain ⟨hk, q⟩ := q.resolve_right (fun z => by obtain ⟨E', -, -, z⟩ := z; cases z)
    cases q
    refine o_ret1 dL_bright_5 trivial ?_
    exact h_ok hk hx9
  · obtain ⟨rfl, ⟨g', rfl, hx9⟩, q⟩ := q9
    rcases q with ⟨-, q⟩ | ⟨E', hk, hE, q⟩
    · cases q
    cases q
    obtain ⟨m9, hm9⟩ : ∃ m9 : Nat, (k - 1).toNat = m9 := ⟨_, rfl⟩
    rw [hm9] at hE
    rcases m9 with _ | m9
    · cases hE
      refine h_onN (k := 2) (pre := []) (suf := []) (a := 0) (b := 5) (hpc := 6) (ct := 29) (i := 2) rfl (fun _ h9 => absurd h9 List.not_mem_nil) ⟨by decide, by decide⟩ (by decide) hl_29 (List.mem_of_getElem? (i := 0) rfl) (by decide) rfl dL_bright_6 (List.forall_mem_cons.mpr ⟨⟨(show (0 : Nat) ≠ 2 by decide), fun _ => (show (1 : Nat) ≠ 2 by decide)⟩, List.forall_mem_cons.mpr ⟨⟨(show (1 : Nat) ≠ 2 by decide), fun _ => (show (1 : Nat) ≠ 2 by decide)⟩, (fun _ h9 => absurd h9 List.not_mem_nil)⟩⟩) ?_
      refine o_bipush dL_bright_7 (by decide) ?_
      refine o_ret1 dL_bright_9 trivial ?_
      exact h_no hk hm9 rfl hx9
    · cases hE
set_option maxRecDepth 100000 in
set_option maxHeartbeats 4000000 in
/-- the law's was -/
theorem ct_L_was {l : Launch} (hl : l.stackTraces = false) (d : Nat) (g M' : Nat → Nat → Int) (P' : List (Nat → Nat → Int)) (S' : Option (Nat → Nat → Int)) (T' : Nat → Nat → Int) (k v : Int) (hv : v = 0 ∨ v = 1) (i : Int) (hC : o_Ct l yX11_wasBright wX11_wasBright d o_no [.ref 0, .int (o_I i)] o_N (o_mem g) 1 6 (x_x ["java/lang/IndexOutOfBoundsException"] k (.int (o_I v)) M' P' S' T' g)) : o_Ct l yL_was wL_was (d + 1) o_no [.ref 0, .int (o_I i)] o_N (o_mem g) 1 6 (y_x (.int (o_I (h_c k v [-11]))) M' P' S' T') := by
  refine o_Ct.ofVH hl mL_was (by decide +kernel) rfl rfl (Nat.le_of_ble_eq_true rfl) ?_
  refine o_loc [(0, .ref 0), (1, .int (o_I i))] rfl ?_
  refine o_aload_n dL_was_0 rfl ?_
  refine o_iload_n dL_was_1 rfl ?_
  refine o_callV [.int (o_I i)] (rest := []) hC dL_was_2 ml_L_76 yw_X11_wasBright rfl (by decide) (by omega) (by decide) (by decide) (by decide) rfl rfl rfl (Nat.le_of_ble_eq_true rfl) (fun _ z => z.elim) (fun _ z => z.elim) (Or.inl fun _ z => z) (fun v9 n9 h9 q9 => ?_) (fun E n9 h9 q9 => ?_)
  · obtain ⟨rfl, ⟨g', rfl, hx9⟩, q⟩ := q9
    obtain ⟨hk, q⟩ := q.resolve_right (fun z => by obtain ⟨E', -, -, z⟩ := z; cases z)
    cases q
    refine o_if_eq (tgt := 12) dL_was_5 (by decide) ⟨by omega, by omega⟩ (fun c9 => ?_) (fun c9 => ?_)
    · refine o_iconst dL_was_12 ?_
      refine o_ret1 dL_was_13 trivial ?_
      rw [show (0 : Int) = v by omega]
      exact h_ok hk hx9
    · refine o_iconst dL_was_8 ?_
      refine o_goto (tgt := 13) dL_was_9 (by decide) ?_
      refine o_ret1 dL_was_13 trivial ?_
      rw [show (1 : Int) = v by omega]
      exact h_ok hk hx9
  · obtain ⟨rfl, ⟨g', rfl, hx9⟩, q⟩ := q9
    rcases q with ⟨-, q⟩ | ⟨E', hk, hE, q⟩
    · cases q
    cases q
    obtain ⟨m9, hm9⟩ : ∃ m9 : Nat, (k - 1).toNat = m9 := ⟨_, rfl⟩
    rw [hm9] at hE
    rcases m9 with _ | m9
    · cases hE
      refine h_onN (k := 2) (pre := []) (suf := []) (a := 0) (b := 13) (hpc := 14) (ct := 29) (i := 2) rfl (fun _ h9 => absurd h9 List.not_mem_nil) ⟨by decide, by decide⟩ (by decide) hl_29 (List.mem_of_getElem? (i := 0) rfl) (by decide) rfl dL_was_14 (List.forall_mem_cons.mpr ⟨⟨(show (0 : Nat) ≠ 2 by decide), fun _ => (show (1 : Nat) ≠ 2 by decide)⟩, List.forall_mem_cons.mpr ⟨⟨(show (1 : Nat) ≠ 2 by decide), fun _ => (show (1 : Nat) ≠ 2 by decide)⟩, (fun _ h9 => absurd h9 List.not_mem_nil)⟩⟩) ?_
      refine o_bipush dL_was_15 (by decide) ?_
      refine o_ret1 dL_was_17 trivial ?_
      exact h_no hk hm9 rfl hx9
    · cases hE
set_option maxRecDepth 100000 in
set_option maxHeartbeats 4000000 in
/-- the law's byEnd -/
theorem ct_L_byEnd {l : Launch} (hl : l.stackTraces = false) (d : Nat) (g M' : Nat → Nat → Int) (P' : List (Nat → Nat → Int)) (S' : Option (Nat → Nat → Int)) (T' : Nat → Nat → Int) (k v : Int) (i : Int) (hC : o_Ct l yX11_lampByEnd wX11_lampByEnd d o_no [.ref 0, .int (o_I i)] o_N (o_mem g) 1 6 (x_x ["java/util/NoSuchElementException"] k (.int (o_I v)) M' P' S' T' g)) : o_Ct l yL_byEnd wL_byEnd (d + 1) o_no [.ref 0, .int (o_I i)] o_N (o_mem g) 1 6 (y_x (.int (o_I (h_c k v [-13]))) M' P' S' T') := by
  refine o_Ct.ofVH hl mL_byEnd (by decide +kernel) rfl rfl (Nat.le_of_ble_eq_true rfl) ?_
  refine o_loc [(0, .ref 0), (1, .int (o_I i))] rfl ?_
  refine o_aload_n dL_byEnd_0 rfl ?_
  refine o_iload_n dL_byEnd_1 rfl ?_
  refine o_callV [.int (o_I i)] (rest := []) hC dL_byEnd_2 ml_L_100 yw_X11_lampByEnd rfl (by decide) (by omega) (by decide) (by decide) (by decide) rfl rfl rfl (Nat.le_of_ble_eq_true rfl) (fun _ z => z.elim) (fun _ z => z.elim) (Or.inl fun _ z => z) (fun v9 n9 h9 q9 => ?_) (fun E n9 h9 q9 => ?_)
  · obtain ⟨rfl, ⟨g', rfl, hx9⟩, q⟩ := q9
    obtain ⟨hk, q⟩ := q.resolve_right (fun z => by obtain ⟨E', -, -, z⟩ := z; cases z)
    cases q
    refine o_ret1 dL_byEnd_5 trivial ?_
    exact h_ok hk hx9
  · obtain ⟨rfl, ⟨g', rfl, hx9⟩, q⟩ := q9
    rcases q with ⟨-, q⟩ | ⟨E', hk, hE, q⟩
    · cases q
    cases q
    obtain ⟨m9, hm9⟩ : ∃ m9 : Nat, (k - 1).toNat = m9 := ⟨_, rfl⟩
    rw [hm9] at hE
    rcases m9 with _ | m9
    · cases hE
      refine h_onN (k := 2) (pre := []) (suf := []) (a := 0) (b := 5) (hpc := 6) (ct := 37) (i := 2) rfl (fun _ h9 => absurd h9 List.not_mem_nil) ⟨by decide, by decide⟩ (by decide) hl_37 (List.mem_of_getElem? (i := 3) rfl) (by decide) rfl dL_byEnd_6 (List.forall_mem_cons.mpr ⟨⟨(show (0 : Nat) ≠ 2 by decide), fun _ => (show (1 : Nat) ≠ 2 by decide)⟩, List.forall_mem_cons.mpr ⟨⟨(show (1 : Nat) ≠ 2 by decide), fun _ => (show (1 : Nat) ≠ 2 by decide)⟩, (fun _ h9 => absurd h9 List.not_mem_nil)⟩⟩) ?_
      refine o_bipush dL_byEnd_7 (by decide) ?_
      refine o_ret1 dL_byEnd_9 trivial ?_
      exact h_no hk hm9 rfl hx9
    · cases hE
set_option maxRecDepth 100000 in
set_option maxHeartbeats 4000000 in
/-- the law's asked -/
theorem ct_L_asked {l : Launch} (hl : l.stackTraces = false) (d : Nat) (g M' : Nat → Nat → Int) (P' : List (Nat → Nat → Int)) (S' : Option (Nat → Nat → Int)) (T' : Nat → Nat → Int) (k v : Int) (i : Int) (hC : o_Ct l yX11_requestedLamp wX11_requestedLamp d o_no [.ref 0, .int (o_I i)] o_N (o_mem g) 1 6 (x_x ["java/util/NoSuchElementException"] k (.int (o_I v)) M' P' S' T' g)) : o_Ct l yL_asked wL_asked (d + 1) o_no [.ref 0, .int (o_I i)] o_N (o_mem g) 1 6 (y_x (.int (o_I (h_c k v [-13]))) M' P' S' T') := by
  refine o_Ct.ofVH hl mL_asked (by decide +kernel) rfl rfl (Nat.le_of_ble_eq_true rfl) ?_
  refine o_loc [(0, .ref 0), (1, .int (o_I i))] rfl ?_
  refine o_aload_n dL_asked_0 rfl ?_
  refine o_iload_n dL_asked_1 rfl ?_
  refine o_callV [.int (o_I i)] (rest := []) hC dL_asked_2 ml_L_91 yw_X11_requestedLamp rfl (by decide) (by omega) (by decide) (by decide) (by decide) rfl rfl rfl (Nat.le_of_ble_eq_true rfl) (fun _ z => z.elim) (fun _ z => z.elim) (Or.inl fun _ z => z) (fun v9 n9 h9 q9 => ?_) (fun E n9 h9 q9 => ?_)
  · obtain ⟨rfl, ⟨g', rfl, hx9⟩, q⟩ := q9
    obtain ⟨hk, q⟩ := q.resolve_right (fun z => by obtain ⟨E', -, -, z⟩ := z; cases z)
    cases q
    refine o_ret1 dL_asked_5 trivial ?_
    exact h_ok hk hx9
  · obtain ⟨rfl, ⟨g', rfl, hx9⟩, q⟩ := q9
    rcases q with ⟨-, q⟩ | ⟨E', hk, hE, q⟩
    · cases q
    cases q
    obtain ⟨m9, hm9⟩ : ∃ m9 : Nat, (k - 1).toNat = m9 := ⟨_, rfl⟩
    rw [hm9] at hE
    rcases m9 with _ | m9
    · cases hE
      refine h_onN (k := 2) (pre := []) (suf := []) (a := 0) (b := 5) (hpc := 6) (ct := 37) (i := 2) rfl (fun _ h9 => absurd h9 List.not_mem_nil) ⟨by decide, by decide⟩ (by decide) hl_37 (List.mem_of_getElem? (i := 3) rfl) (by decide) rfl dL_asked_6 (List.forall_mem_cons.mpr ⟨⟨(show (0 : Nat) ≠ 2 by decide), fun _ => (show (1 : Nat) ≠ 2 by decide)⟩, List.forall_mem_cons.mpr ⟨⟨(show (1 : Nat) ≠ 2 by decide), fun _ => (show (1 : Nat) ≠ 2 by decide)⟩, (fun _ h9 => absurd h9 List.not_mem_nil)⟩⟩) ?_
      refine o_bipush dL_asked_7 (by decide) ?_
      refine o_ret1 dL_asked_9 trivial ?_
      exact h_no hk hm9 rfl hx9
    · cases hE
set_option maxRecDepth 100000 in
set_option maxHeartbeats 4000000 in
/-- the law's askedHours -/
theorem ct_L_askedHours {l : Launch} (hl : l.stackTraces = false) (d : Nat) (g M' : Nat → Nat → Int) (P' : List (Nat → Nat → Int)) (S' : Option (Nat → Nat → Int)) (T' : Nat → Nat → Int) (k v : Int) (i : Int) (hC : o_Ct l yX11_requestedHours wX11_requestedHours d o_no [.ref 0, .int (o_I i)] o_N (o_mem g) 1 6 (x_x ["java/util/NoSuchElementException"] k (.int (o_I v)) M' P' S' T' g)) : o_Ct l yL_askedHours wL_askedHours (d + 1) o_no [.ref 0, .int (o_I i)] o_N (o_mem g) 1 6 (y_x (.int (o_I (h_c k v [-13]))) M' P' S' T') := by
  refine o_Ct.ofVH hl mL_askedHours (by decide +kernel) rfl rfl (Nat.le_of_ble_eq_true rfl) ?_
  refine o_loc [(0, .ref 0), (1, .int (o_I i))] rfl ?_
  refine o_aload_n dL_askedHours_0 rfl ?_
  refine o_iload_n dL_askedHours_1 rfl ?_
  refine o_callV [.int (o_I i)] (rest := []) hC dL_askedHours_2 ml_L_94 yw_X11_requestedHours rfl (by decide) (by omega) (by decide) (by decide) (by decide) rfl rfl rfl (Nat.le_of_ble_eq_true rfl) (fun _ z => z.elim) (fun _ z => z.elim) (Or.inl fun _ z => z) (fun v9 n9 h9 q9 => ?_) (fun E n9 h9 q9 => ?_)
  · obtain ⟨rfl, ⟨g', rfl, hx9⟩, q⟩ := q9
    obtain ⟨hk, q⟩ := q.resolve_right (fun z => by obtain ⟨E', -, -, z⟩ := z; cases z)
    cases q
    refine o_ret1 dL_askedHours_5 trivial ?_
    exact h_ok hk hx9
  · obtain ⟨rfl, ⟨g', rfl, hx9⟩, q⟩ := q9
    rcases q with ⟨-, q⟩ | ⟨E', hk, hE, q⟩
    · cases q
    cases q
    obtain ⟨m9, hm9⟩ : ∃ m9 : Nat, (k - 1).toNat = m9 := ⟨_, rfl⟩
    rw [hm9] at hE
    rcases m9 with _ | m9
    · cases hE
      refine h_onN (k := 2) (pre := []) (suf := []) (a := 0) (b := 5) (hpc := 6) (ct := 37) (i := 2) rfl (fun _ h9 => absurd h9 List.not_mem_nil) ⟨by decide, by decide⟩ (by decide) hl_37 (List.mem_of_getElem? (i := 3) rfl) (by decide) rfl dL_askedHours_6 (List.forall_mem_cons.mpr ⟨⟨(show (0 : Nat) ≠ 2 by decide), fun _ => (show (1 : Nat) ≠ 2 by decide)⟩, List.forall_mem_cons.mpr ⟨⟨(show (1 : Nat) ≠ 2 by decide), fun _ => (show (1 : Nat) ≠ 2 by decide)⟩, (fun _ h9 => absurd h9 List.not_mem_nil)⟩⟩) ?_
      refine o_bipush dL_askedHours_7 (by decide) ?_
      refine o_ret1 dL_askedHours_9 trivial ?_
      exact h_no hk hm9 rfl hx9
    · cases hE
set_option maxRecDepth 100000 in
set_option maxHeartbeats 4000000 in
/-- the law's outputAt -/
theorem ct_L_outputAt {l : Launch} (hl : l.stackTraces = false) (d : Nat) (g M' : Nat → Nat → Int) (P' : List (Nat → Nat → Int)) (S' : Option (Nat → Nat → Int)) (T' : Nat → Nat → Int) (k v : Int) (i : Int) (hC : o_Ct l yX11_outputChar wX11_outputChar d o_no [.ref 0, .int (o_I i)] o_N (o_mem g) 1 6 (x_x ["java/lang/IndexOutOfBoundsException"] k (.int (o_I v)) M' P' S' T' g)) : o_Ct l yL_outputAt wL_outputAt (d + 1) o_no [.ref 0, .int (o_I i)] o_N (o_mem g) 1 6 (y_x (.int (o_I (h_c k v [-11]))) M' P' S' T') := by
  refine o_Ct.ofVH hl mL_outputAt (by decide +kernel) rfl rfl (Nat.le_of_ble_eq_true rfl) ?_
  refine o_loc [(0, .ref 0), (1, .int (o_I i))] rfl ?_
  refine o_aload_n dL_outputAt_0 rfl ?_
  refine o_iload_n dL_outputAt_1 rfl ?_
  refine o_callV [.int (o_I i)] (rest := []) hC dL_outputAt_2 ml_L_120 yw_X11_outputChar rfl (by decide) (by omega) (by decide) (by decide) (by decide) rfl rfl rfl (Nat.le_of_ble_eq_true rfl) (fun _ z => z.elim) (fun _ z => z.elim) (Or.inl fun _ z => z) (fun v9 n9 h9 q9 => ?_) (fun E n9 h9 q9 => ?_)
  · obtain ⟨rfl, ⟨g', rfl, hx9⟩, q⟩ := q9
    obtain ⟨hk, q⟩ := q.resolve_right (fun z => by obtain ⟨E', -, -, z⟩ := z; cases z)
    cases q
    refine o_ret1 dL_outputAt_5 trivial ?_
    exact h_ok hk hx9
  · obtain ⟨rfl, ⟨g', rfl, hx9⟩, q⟩ := q9
    rcases q with ⟨-, q⟩ | ⟨E', hk, hE, q⟩
    · cases q
    cases q
    obtain ⟨m9, hm9⟩ : ∃ m9 : Nat, (k - 1).toNat = m9 := ⟨_, rfl⟩
    rw [hm9] at hE
    rcases m9 with _ | m9
    · cases hE
      refine h_onN (k := 2) (pre := []) (suf := []) (a := 0) (b := 5) (hpc := 6) (ct := 29) (i := 2) rfl (fun _ h9 => absurd h9 List.not_mem_nil) ⟨by decide, by decide⟩ (by decide) hl_29 (List.mem_of_getElem? (i := 0) rfl) (by decide) rfl dL_outputAt_6 (List.forall_mem_cons.mpr ⟨⟨(show (0 : Nat) ≠ 2 by decide), fun _ => (show (1 : Nat) ≠ 2 by decide)⟩, List.forall_mem_cons.mpr ⟨⟨(show (1 : Nat) ≠ 2 by decide), fun _ => (show (1 : Nat) ≠ 2 by decide)⟩, (fun _ h9 => absurd h9 List.not_mem_nil)⟩⟩) ?_
      refine o_bipush dL_outputAt_7 (by decide) ?_
      refine o_ret1 dL_outputAt_9 trivial ?_
      exact h_no hk hm9 rfl hx9
    · cases hE
set_option maxRecDepth 100000 in
set_option maxHeartbeats 4000000 in
/-- the law's feed -/
theorem ct_L_feed {l : Launch} (hl : l.stackTraces = false) (d : Nat) (g M' : Nat → Nat → Int) (P' : List (Nat → Nat → Int)) (S' : Option (Nat → Nat → Int)) (T' : Nat → Nat → Int) (k v : Int) (i : Int) (hC : o_Ct l yX11_feed wX11_feed d o_no [.ref 0, .int (o_I i)] o_N (o_mem g) 1 6 (x_x ["java/lang/IllegalStateException"] k (.int (o_I v)) M' P' S' T' g)) : o_Ct l yL_feed wL_feed (d + 1) o_no [.ref 0, .int (o_I i)] o_N (o_mem g) 1 6 (y_x (.int (o_I (h_c k v [-14]))) M' P' S' T') := by
  refine o_Ct.ofVH hl mL_feed (by decide +kernel) rfl rfl (Nat.le_of_ble_eq_true rfl) ?_
  refine o_loc [(0, .ref 0), (1, .int (o_I i))] rfl ?_
  refine o_aload_n dL_feed_0 rfl ?_
  refine o_iload_n dL_feed_1 rfl ?_
  refine o_callV [.int (o_I i)] (rest := []) hC dL_feed_2 ml_L_103 yw_X11_feed rfl (by decide) (by omega) (by decide) (by decide) (by decide) rfl rfl rfl (Nat.le_of_ble_eq_true rfl) (fun _ z => z.elim) (fun _ z => z.elim) (Or.inl fun _ z => z) (fun v9 n9 h9 q9 => ?_) (fun E n9 h9 q9 => ?_)
  · obtain ⟨rfl, ⟨g', rfl, hx9⟩, q⟩ := q9
    obtain ⟨hk, q⟩ := q.resolve_right (fun z => by obtain ⟨E', -, -, z⟩ := z; cases z)
    cases q
    refine o_ret1 dL_feed_5 trivial ?_
    exact h_ok hk hx9
  · obtain ⟨rfl, ⟨g', rfl, hx9⟩, q⟩ := q9
    rcases q with ⟨-, q⟩ | ⟨E', hk, hE, q⟩
    · cases q
    cases q
    obtain ⟨m9, hm9⟩ : ∃ m9 : Nat, (k - 1).toNat = m9 := ⟨_, rfl⟩
    rw [hm9] at hE
    rcases m9 with _ | m9
    · cases hE
      refine h_onN (k := 2) (pre := []) (suf := []) (a := 0) (b := 5) (hpc := 6) (ct := 14) (i := 2) rfl (fun _ h9 => absurd h9 List.not_mem_nil) ⟨by decide, by decide⟩ (by decide) hl_14 (List.mem_of_getElem? (i := 2) rfl) (by decide) rfl dL_feed_6 (List.forall_mem_cons.mpr ⟨⟨(show (0 : Nat) ≠ 2 by decide), fun _ => (show (1 : Nat) ≠ 2 by decide)⟩, List.forall_mem_cons.mpr ⟨⟨(show (1 : Nat) ≠ 2 by decide), fun _ => (show (1 : Nat) ≠ 2 by decide)⟩, (fun _ h9 => absurd h9 List.not_mem_nil)⟩⟩) ?_
      refine o_bipush dL_feed_7 (by decide) ?_
      refine o_ret1 dL_feed_9 trivial ?_
      exact h_no hk hm9 rfl hx9
    · cases hE
set_option maxRecDepth 100000 in
set_option maxHeartbeats 4000000 in
/-- the law's runs -/
theorem ct_L_runs {l : Launch} (hl : l.stackTraces = false) (d : Nat) (g M' : Nat → Nat → Int) (P' : List (Nat → Nat → Int)) (S' : Option (Nat → Nat → Int)) (T' : Nat → Nat → Int) (k v : Int) (hC : o_Ct l yX11_runCommands wX11_runCommands d o_no [.ref 0] o_N (o_mem g) 1 6 (x_x ["java/lang/IllegalArgumentException", "java/lang/UnsupportedOperationException"] k (.int (o_I v)) M' P' S' T' g)) : o_Ct l yL_runs wL_runs (d + 1) o_no [.ref 0] o_N (o_mem g) 1 6 (y_x (.int (o_I (h_c k v [-1, -2]))) M' P' S' T') := by
  refine o_Ct.ofVH hl mL_runs (by decide +kernel) rfl rfl (Nat.le_of_ble_eq_true rfl) ?_
  refine o_loc [(0, .ref 0)] rfl ?_
  refine o_aload_n dL_runs_0 rfl ?_
  refine o_callV [] (rest := []) hC dL_runs_1 ml_L_107 yw_X11_runCommands rfl (by decide) (by omega) (by decide) (by decide) (by decide) rfl rfl rfl (Nat.le_of_ble_eq_true rfl) (fun _ z => z.elim) (fun _ z => z.elim) (Or.inl fun _ z => z) (fun v9 n9 h9 q9 => ?_) (fun E n9 h9 q9 => ?_)
  · obtain ⟨rfl, ⟨g', rfl, hx9⟩, q⟩ := q9
    obtain ⟨hk, q⟩ := q.resolve_right (fun z => by obtain ⟨E', -, -, z⟩ := z; cases z)
    cases q
    refine o_ret1 dL_runs_4 trivial ?_
    exact h_ok hk hx9
  · obtain ⟨rfl, ⟨g', rfl, hx9⟩, q⟩ := q9
    rcases q with ⟨-, q⟩ | ⟨E', hk, hE, q⟩
    · cases q
    cases q
    obtain ⟨m9, hm9⟩ : ∃ m9 : Nat, (k - 1).toNat = m9 := ⟨_, rfl⟩
    rw [hm9] at hE
    rcases m9 with _ | m9
    · cases hE
      refine h_onN (k := 1) (pre := []) (suf := [(0, 4, 8, 31)]) (a := 0) (b := 4) (hpc := 5) (ct := 20) (i := 1) rfl (fun _ h9 => absurd h9 List.not_mem_nil) ⟨by decide, by decide⟩ (by decide) hl_20 (List.mem_of_getElem? (i := 1) rfl) (by decide) rfl dL_runs_5 (List.forall_mem_cons.mpr ⟨⟨(show (0 : Nat) ≠ 1 by decide), fun _ => (show (1 : Nat) ≠ 2 by decide)⟩, (fun _ h9 => absurd h9 List.not_mem_nil)⟩) ?_
      refine o_iconst dL_runs_6 ?_
      refine o_ret1 dL_runs_7 trivial ?_
      exact h_no hk hm9 rfl hx9
    rcases m9 with _ | m9
    · cases hE
      refine h_onN (k := 1) (pre := [(0, 4, 5, 20)]) (suf := []) (a := 0) (b := 4) (hpc := 8) (ct := 31) (i := 1) rfl (List.forall_mem_cons.mpr ⟨⟨by decide, _, hl_20, List.mem_of_getElem? (i := 4) rfl⟩, (fun _ h9 => absurd h9 List.not_mem_nil)⟩) ⟨by decide, by decide⟩ (by decide) hl_31 (List.mem_of_getElem? (i := 4) rfl) (by decide) rfl dL_runs_8 (List.forall_mem_cons.mpr ⟨⟨(show (0 : Nat) ≠ 1 by decide), fun _ => (show (1 : Nat) ≠ 2 by decide)⟩, (fun _ h9 => absurd h9 List.not_mem_nil)⟩) ?_
      refine o_bipush dL_runs_9 (by decide) ?_
      refine o_ret1 dL_runs_11 trivial ?_
      exact h_no hk hm9 rfl hx9
    · cases hE
set_option maxRecDepth 100000 in
set_option maxHeartbeats 4000000 in
/-- the law's undo -/
theorem ct_L_undo {l : Launch} (hl : l.stackTraces = false) (d : Nat) (g M' : Nat → Nat → Int) (P' : List (Nat → Nat → Int)) (S' : Option (Nat → Nat → Int)) (T' : Nat → Nat → Int) (k v : Int) (hC : o_Ct l yX11_undo wX11_undo d o_no [.ref 0] o_N (o_mem g) 1 6 (x_x ["java/lang/IllegalStateException"] k (.int (o_I v)) M' P' S' T' g)) : o_Ct l yL_undo wL_undo (d + 1) o_no [.ref 0] o_N (o_mem g) 1 6 (y_x (.int (o_I (h_c k v [-1]))) M' P' S' T') := by
  refine o_Ct.ofVH hl mL_undo (by decide +kernel) rfl rfl (Nat.le_of_ble_eq_true rfl) ?_
  refine o_loc [(0, .ref 0)] rfl ?_
  refine o_aload_n dL_undo_0 rfl ?_
  refine o_callV [] (rest := []) hC dL_undo_1 ml_L_124 yw_X11_undo rfl (by decide) (by omega) (by decide) (by decide) (by decide) rfl rfl rfl (Nat.le_of_ble_eq_true rfl) (fun _ z => z.elim) (fun _ z => z.elim) (Or.inl fun _ z => z) (fun v9 n9 h9 q9 => ?_) (fun E n9 h9 q9 => ?_)
  · obtain ⟨rfl, ⟨g', rfl, hx9⟩, q⟩ := q9
    obtain ⟨hk, q⟩ := q.resolve_right (fun z => by obtain ⟨E', -, -, z⟩ := z; cases z)
    cases q
    refine o_ret1 dL_undo_4 trivial ?_
    exact h_ok hk hx9
  · obtain ⟨rfl, ⟨g', rfl, hx9⟩, q⟩ := q9
    rcases q with ⟨-, q⟩ | ⟨E', hk, hE, q⟩
    · cases q
    cases q
    obtain ⟨m9, hm9⟩ : ∃ m9 : Nat, (k - 1).toNat = m9 := ⟨_, rfl⟩
    rw [hm9] at hE
    rcases m9 with _ | m9
    · cases hE
      refine h_onN (k := 1) (pre := []) (suf := []) (a := 0) (b := 4) (hpc := 5) (ct := 14) (i := 1) rfl (fun _ h9 => absurd h9 List.not_mem_nil) ⟨by decide, by decide⟩ (by decide) hl_14 (List.mem_of_getElem? (i := 2) rfl) (by decide) rfl dL_undo_5 (List.forall_mem_cons.mpr ⟨⟨(show (0 : Nat) ≠ 1 by decide), fun _ => (show (1 : Nat) ≠ 2 by decide)⟩, (fun _ h9 => absurd h9 List.not_mem_nil)⟩) ?_
      refine o_iconst dL_undo_6 ?_
      refine o_ret1 dL_undo_7 trivial ?_
      exact h_no hk hm9 rfl hx9
    · cases hE
