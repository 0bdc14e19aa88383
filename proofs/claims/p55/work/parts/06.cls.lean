/-! the classes' words, types and names -/
def o_clF (q : vw_C) : Prop := (∀ w ∈ u_ws q.1 q.2.1 q.2.2, w ∈ o_gW) ∧ (∃ ty : Nat → FieldType, ∀ k, k < q.2.2 → parseFieldDescriptor (q.2.1 k).2.2.1 = some (ty k)) ∧ ∀ a, a < q.2.2 → ∀ b, b < q.2.2 → a ≠ b → (q.2.1 a).2.1 ≠ (q.2.1 b).2.1
theorem o_clF0 (E : String) : o_clF (E, o_T0, 0) := ⟨fun w hw => by simp [u_ws] at hw, ⟨fun _ => .int, fun k hk => absurd hk (Nat.not_lt_zero k)⟩, fun a ha => absurd ha (Nat.not_lt_zero a)⟩
theorem o_clF_X11 : o_clF (RX11, TX11, 12) := ⟨by decide +kernel, ⟨tyX11, tyX11_ok⟩, nmX11⟩
theorem o_clF_X10 : o_clF (RX10, TX10, 7) := ⟨by decide +kernel, ⟨tyX10, tyX10_ok⟩, nmX10⟩
theorem o_clF_X9 : o_clF (RX9, TX9, 4) := ⟨by decide +kernel, ⟨tyX9, tyX9_ok⟩, nmX9⟩
theorem o_clF_X7 : o_clF (RX7, TX7, 6) := ⟨by decide +kernel, ⟨tyX7, tyX7_ok⟩, nmX7⟩
theorem o_clF_X8 : o_clF (RX8, TX8, 3) := ⟨by decide +kernel, ⟨tyX8, tyX8_ok⟩, nmX8⟩
theorem o_clF_X5 : o_clF (RX5, TX5, 3) := ⟨by decide +kernel, ⟨tyX5, tyX5_ok⟩, nmX5⟩
theorem o_clF_X4 : o_clF (RX4, TX4, 1) := ⟨by decide +kernel, ⟨tyX4, tyX4_ok⟩, nmX4⟩
theorem o_clF_X3 : o_clF (RX3, TX3, 4) := ⟨by decide +kernel, ⟨tyX3, tyX3_ok⟩, nmX3⟩
theorem o_clF_X2 : o_clF (RX2, TX2, 5) := ⟨by decide +kernel, ⟨tyX2, tyX2_ok⟩, nmX2⟩
theorem o_clF_X1 : o_clF (RX1, TX1, 2) := ⟨by decide +kernel, ⟨tyX1, tyX1_ok⟩, nmX1⟩
theorem o_clF_J0 : o_clF ("java/lang/String", TJ0, 4) := ⟨by decide +kernel, ⟨tyJ0, tyJ0_ok⟩, nmJ0⟩
theorem o_clF_J4 : o_clF (RJ4, TJ4, 4) := ⟨by decide +kernel, ⟨tyJ4, tyJ4_ok⟩, nmJ4⟩
theorem o_clOk : ∀ q ∈ o_cl, o_clF q := List.forall_mem_cons.mpr ⟨o_clF_X11, List.forall_mem_cons.mpr ⟨o_clF_X10, List.forall_mem_cons.mpr ⟨o_clF_X9, List.forall_mem_cons.mpr ⟨o_clF_X7, List.forall_mem_cons.mpr ⟨o_clF_X8, List.forall_mem_cons.mpr ⟨o_clF_X5, List.forall_mem_cons.mpr ⟨o_clF_X4, List.forall_mem_cons.mpr ⟨o_clF_X3, List.forall_mem_cons.mpr ⟨o_clF_X2, List.forall_mem_cons.mpr ⟨o_clF_X1, List.forall_mem_cons.mpr ⟨o_clF_J0, List.forall_mem_cons.mpr ⟨o_clF_J4, List.forall_mem_cons.mpr ⟨o_clF0 _, List.forall_mem_cons.mpr ⟨o_clF0 _, List.forall_mem_cons.mpr ⟨o_clF0 _, List.forall_mem_cons.mpr ⟨o_clF0 _, List.forall_mem_cons.mpr ⟨o_clF0 _, List.forall_mem_cons.mpr ⟨o_clF0 _, fun _ h => absurd h List.not_mem_nil⟩⟩⟩⟩⟩⟩⟩⟩⟩⟩⟩⟩⟩⟩⟩⟩⟩⟩
theorem o_clAt {ci : Nat} {q : vw_C} (h : o_cl[ci]? = some q) : o_clF q := o_clOk q (List.mem_of_getElem? h)
theorem o_Rp.set {Z : o_Z} {ad : Nat → Nat} {n b : Nat} {h h' : Nat → o_C} {H1 : Heap} {c : o_C} {e0 : va_E} (he : e0 = o_rC ad Z.2.2.1 c) (e : o_up h b c = h') (hP : va_P Z.2.1 o_cl ((o_rW ad Z.2.2.1 n h).set b (ad b, e0)) H1) (hD : va_D (o_A Z) ((o_rW ad Z.2.2.1 n h).set b (ad b, e0))) : o_Rp Z ad n h' H1 := by
  rw [o_rW_set he, e] at hP hD
  exact ⟨hP, hD⟩
theorem o_inR {i : Int} {n : Nat} (hn : n ≤ 2147483647) (h0 : 0 ≤ i) (h1 : i < n) : o_R i := ⟨by omega, by omega⟩
theorem o_mx {a b : Int} (ha : o_R a) (hb : o_R b) : (if o_I a < o_I b then o_I b else o_I a) = o_I (max a b) := by
  by_cases q : a < b
  · rw [if_pos ((o_lt ha hb).mpr q)]; congr 1; omega
  · rw [if_neg (fun z => q ((o_lt ha hb).mp z))]; congr 1; omega
theorem o_mn {a b : Int} (ha : o_R a) (hb : o_R b) : (if o_I b < o_I a then o_I b else o_I a) = o_I (min a b) := by
  by_cases q : b < a
  · rw [if_pos ((o_lt hb ha).mpr q)]; congr 1; omega
  · rw [if_neg (fun z => q ((o_lt hb ha).mp z))]; congr 1; omega
/-- functions of integers -/
def o_u (g : Nat → Int) (k : Nat) (z : Int) : Nat → Int := fun j => if j = k then z else g j
theorem o_uI (g : Nat → Int) (k : Nat) (z : Int) : upd (fun j => o_I (g j)) k (o_I z) = fun j => o_I (o_u g k z j) := by
  funext j
  by_cases q : j = k
  · subst q; simp [upd, o_u]
  · simp [upd, o_u, q]
theorem o_cpI (f g : Nat → Int) (sp dp m : Nat) : va_cpy (fun j => o_I (f j)) (fun j => o_I (g j)) sp dp m = fun j => o_I (va_cpy f g sp dp m j) := by
  funext j
  unfold va_cpy
  split <;> rfl
