/-! the law's heap: the office's 192 cells, and others beside them -/
def o_okP (F : (Nat → Int) → Int → o_C) : Prop := ∀ f z, o_okC 192 (F f z)
set_option maxRecDepth 100000 in
set_option maxHeartbeats 4000000 in
theorem o_Fa0_okP : ∀ F ∈ o_Fa0, o_okP F := List.forall_mem_cons.mpr ⟨(fun f z v hv r hr => by simp only [List.mem_cons, List.not_mem_nil, or_false] at hv; rcases hv with rfl | rfl | rfl | rfl | rfl | rfl | rfl | rfl | rfl | rfl | rfl | rfl <;> first | (cases hr; done) | (cases hr; first | exact Or.inl (by decide) | exact Or.inr (by omega))), List.forall_mem_cons.mpr ⟨(fun f z v hv r hr => by simp only [List.mem_cons, List.not_mem_nil, or_false] at hv; rcases hv with rfl | rfl | rfl | rfl | rfl | rfl | rfl <;> first | (cases hr; done) | (cases hr; first | exact Or.inl (by decide) | exact Or.inr (by omega))), List.forall_mem_cons.mpr ⟨(fun f z v hv r hr => by simp only [List.mem_cons, List.not_mem_nil, or_false] at hv; rcases hv with rfl | rfl | rfl | rfl <;> first | (cases hr; done) | (cases hr; first | exact Or.inl (by decide) | exact Or.inr (by omega))), List.forall_mem_cons.mpr ⟨fun _ _ => trivial, List.forall_mem_cons.mpr ⟨fun _ _ => trivial, List.forall_mem_cons.mpr ⟨fun _ _ => trivial, List.forall_mem_cons.mpr ⟨(fun f z v hv r hr => by simp only [List.mem_cons, List.not_mem_nil, or_false] at hv; rcases hv with rfl | rfl | rfl | rfl | rfl | rfl <;> first | (cases hr; done) | (cases hr; first | exact Or.inl (by decide) | exact Or.inr (by omega))), List.forall_mem_cons.mpr ⟨fun _ _ => trivial, List.forall_mem_cons.mpr ⟨fun _ _ => trivial, List.forall_mem_cons.mpr ⟨fun _ _ => trivial, List.forall_mem_cons.mpr ⟨fun _ _ => trivial, List.forall_mem_cons.mpr ⟨fun _ _ => trivial, List.forall_mem_cons.mpr ⟨(fun f z v hv r hr => by simp only [List.mem_cons, List.not_mem_nil, or_false] at hv; rcases hv with rfl | rfl | rfl <;> first | (cases hr; done) | (cases hr; first | exact Or.inl (by decide) | exact Or.inr (by omega))), List.forall_mem_cons.mpr ⟨fun _ _ => trivial, List.forall_mem_cons.mpr ⟨fun _ _ => trivial, List.forall_mem_cons.mpr ⟨(fun f z v hv r hr => by simp only [List.mem_cons, List.not_mem_nil, or_false] at hv; rcases hv with rfl | rfl | rfl | rfl | rfl | rfl | rfl <;> first | (cases hr; done) | (cases hr; first | exact Or.inl (by decide) | exact Or.inr (by omega))), List.forall_mem_cons.mpr ⟨(fun f z v hv r hr => by simp only [List.mem_cons, List.not_mem_nil, or_false] at hv; rcases hv with rfl | rfl | rfl | rfl <;> first | (cases hr; done) | (cases hr; first | exact Or.inl (by decide) | exact Or.inr (by omega))), List.forall_mem_cons.mpr ⟨fun _ _ => trivial, List.forall_mem_cons.mpr ⟨fun _ _ => trivial, fun _ h => absurd h List.not_mem_nil⟩⟩⟩⟩⟩⟩⟩⟩⟩⟩⟩⟩⟩⟩⟩⟩⟩⟩⟩
set_option maxRecDepth 100000 in
set_option maxHeartbeats 4000000 in
theorem o_Fa1_okP : ∀ F ∈ o_Fa1, o_okP F := List.forall_mem_cons.mpr ⟨fun _ _ => trivial, List.forall_mem_cons.mpr ⟨(fun f z v hv r hr => by simp only [List.mem_cons, List.not_mem_nil, or_false] at hv; rcases hv with rfl | rfl | rfl | rfl | rfl | rfl <;> first | (cases hr; done) | (cases hr; first | exact Or.inl (by decide) | exact Or.inr (by omega))), List.forall_mem_cons.mpr ⟨fun _ _ => trivial, List.forall_mem_cons.mpr ⟨fun _ _ => trivial, List.forall_mem_cons.mpr ⟨fun _ _ => trivial, List.forall_mem_cons.mpr ⟨fun _ _ => trivial, List.forall_mem_cons.mpr ⟨fun _ _ => trivial, List.forall_mem_cons.mpr ⟨(fun f z v hv r hr => by simp only [List.mem_cons, List.not_mem_nil, or_false] at hv; rcases hv with rfl | rfl | rfl <;> first | (cases hr; done) | (cases hr; first | exact Or.inl (by decide) | exact Or.inr (by omega))), List.forall_mem_cons.mpr ⟨fun _ _ => trivial, List.forall_mem_cons.mpr ⟨fun _ _ => trivial, List.forall_mem_cons.mpr ⟨(fun f z v hv r hr => by simp only [List.mem_cons, List.not_mem_nil, or_false] at hv; rcases hv with rfl | rfl | rfl | rfl | rfl | rfl | rfl <;> first | (cases hr; done) | (cases hr; first | exact Or.inl (by decide) | exact Or.inr (by omega))), List.forall_mem_cons.mpr ⟨(fun f z v hv r hr => by simp only [List.mem_cons, List.not_mem_nil, or_false] at hv; rcases hv with rfl | rfl | rfl | rfl <;> first | (cases hr; done) | (cases hr; first | exact Or.inl (by decide) | exact Or.inr (by omega))), List.forall_mem_cons.mpr ⟨fun _ _ => trivial, List.forall_mem_cons.mpr ⟨fun _ _ => trivial, List.forall_mem_cons.mpr ⟨fun _ _ => trivial, List.forall_mem_cons.mpr ⟨(fun f z v hv r hr => by simp only [List.mem_cons, List.not_mem_nil, or_false] at hv; rcases hv with rfl | rfl | rfl | rfl | rfl | rfl <;> first | (cases hr; done) | (cases hr; first | exact Or.inl (by decide) | exact Or.inr (by omega))), List.forall_mem_cons.mpr ⟨fun _ _ => trivial, List.forall_mem_cons.mpr ⟨fun _ _ => trivial, List.forall_mem_cons.mpr ⟨fun _ _ => trivial, fun _ h => absurd h List.not_mem_nil⟩⟩⟩⟩⟩⟩⟩⟩⟩⟩⟩⟩⟩⟩⟩⟩⟩⟩⟩
set_option maxRecDepth 100000 in
set_option maxHeartbeats 4000000 in
theorem o_Fa2_okP : ∀ F ∈ o_Fa2, o_okP F := List.forall_mem_cons.mpr ⟨fun _ _ => trivial, List.forall_mem_cons.mpr ⟨fun _ _ => trivial, List.forall_mem_cons.mpr ⟨(fun f z v hv r hr => by simp only [List.mem_cons, List.not_mem_nil, or_false] at hv; rcases hv with rfl | rfl | rfl <;> first | (cases hr; done) | (cases hr; first | exact Or.inl (by decide) | exact Or.inr (by omega))), List.forall_mem_cons.mpr ⟨fun _ _ => trivial, List.forall_mem_cons.mpr ⟨fun _ _ => trivial, List.forall_mem_cons.mpr ⟨(fun f z v hv r hr => by simp only [List.mem_cons, List.not_mem_nil, or_false] at hv; rcases hv with rfl | rfl | rfl <;> first | (cases hr; done) | (cases hr; first | exact Or.inl (by decide) | exact Or.inr (by omega))), List.forall_mem_cons.mpr ⟨(fun f z j r hr => by have hr := Option.some.inj hr; split at hr <;> (subst hr; exact Or.inl (by omega))), List.forall_mem_cons.mpr ⟨(fun f z v hv r hr => by simp only [List.mem_cons, List.not_mem_nil, or_false] at hv; rcases hv with rfl | rfl | rfl | rfl | rfl | rfl | rfl <;> first | (cases hr; done) | (cases hr; first | exact Or.inl (by decide) | exact Or.inr (by omega))), List.forall_mem_cons.mpr ⟨(fun f z v hv r hr => by simp only [List.mem_cons, List.not_mem_nil, or_false] at hv; rcases hv with rfl | rfl | rfl | rfl <;> first | (cases hr; done) | (cases hr; first | exact Or.inl (by decide) | exact Or.inr (by omega))), List.forall_mem_cons.mpr ⟨fun _ _ => trivial, List.forall_mem_cons.mpr ⟨fun _ _ => trivial, List.forall_mem_cons.mpr ⟨fun _ _ => trivial, List.forall_mem_cons.mpr ⟨(fun f z v hv r hr => by simp only [List.mem_cons, List.not_mem_nil, or_false] at hv; rcases hv with rfl | rfl | rfl | rfl | rfl | rfl <;> first | (cases hr; done) | (cases hr; first | exact Or.inl (by decide) | exact Or.inr (by omega))), List.forall_mem_cons.mpr ⟨fun _ _ => trivial, List.forall_mem_cons.mpr ⟨fun _ _ => trivial, List.forall_mem_cons.mpr ⟨fun _ _ => trivial, List.forall_mem_cons.mpr ⟨fun _ _ => trivial, List.forall_mem_cons.mpr ⟨fun _ _ => trivial, List.forall_mem_cons.mpr ⟨(fun f z v hv r hr => by simp only [List.mem_cons, List.not_mem_nil, or_false] at hv; rcases hv with rfl | rfl | rfl <;> first | (cases hr; done) | (cases hr; first | exact Or.inl (by decide) | exact Or.inr (by omega))), fun _ h => absurd h List.not_mem_nil⟩⟩⟩⟩⟩⟩⟩⟩⟩⟩⟩⟩⟩⟩⟩⟩⟩⟩⟩
set_option maxRecDepth 100000 in
set_option maxHeartbeats 4000000 in
theorem o_Fa3_okP : ∀ F ∈ o_Fa3, o_okP F := List.forall_mem_cons.mpr ⟨fun _ _ => trivial, List.forall_mem_cons.mpr ⟨fun _ _ => trivial, List.forall_mem_cons.mpr ⟨(fun f z v hv r hr => by simp only [List.mem_cons, List.not_mem_nil, or_false] at hv; rcases hv with rfl | rfl | rfl | rfl | rfl | rfl | rfl <;> first | (cases hr; done) | (cases hr; first | exact Or.inl (by decide) | exact Or.inr (by omega))), List.forall_mem_cons.mpr ⟨(fun f z v hv r hr => by simp only [List.mem_cons, List.not_mem_nil, or_false] at hv; rcases hv with rfl | rfl | rfl | rfl <;> first | (cases hr; done) | (cases hr; first | exact Or.inl (by decide) | exact Or.inr (by omega))), List.forall_mem_cons.mpr ⟨fun _ _ => trivial, List.forall_mem_cons.mpr ⟨fun _ _ => trivial, List.forall_mem_cons.mpr ⟨fun _ _ => trivial, List.forall_mem_cons.mpr ⟨(fun f z v hv r hr => by simp only [List.mem_cons, List.not_mem_nil, or_false] at hv; rcases hv with rfl | rfl | rfl | rfl | rfl | rfl <;> first | (cases hr; done) | (cases hr; first | exact Or.inl (by decide) | exact Or.inr (by omega))), List.forall_mem_cons.mpr ⟨fun _ _ => trivial, List.forall_mem_cons.mpr ⟨fun _ _ => trivial, List.forall_mem_cons.mpr ⟨fun _ _ => trivial, List.forall_mem_cons.mpr ⟨fun _ _ => trivial, List.forall_mem_cons.mpr ⟨fun _ _ => trivial, List.forall_mem_cons.mpr ⟨(fun f z v hv r hr => by simp only [List.mem_cons, List.not_mem_nil, or_false] at hv; rcases hv with rfl | rfl | rfl <;> first | (cases hr; done) | (cases hr; first | exact Or.inl (by decide) | exact Or.inr (by omega))), List.forall_mem_cons.mpr ⟨fun _ _ => trivial, List.forall_mem_cons.mpr ⟨fun _ _ => trivial, List.forall_mem_cons.mpr ⟨(fun f z v hv r hr => by simp only [List.mem_cons, List.not_mem_nil, or_false] at hv; rcases hv with rfl | rfl | rfl | rfl | rfl | rfl | rfl <;> first | (cases hr; done) | (cases hr; first | exact Or.inl (by decide) | exact Or.inr (by omega))), List.forall_mem_cons.mpr ⟨(fun f z v hv r hr => by simp only [List.mem_cons, List.not_mem_nil, or_false] at hv; rcases hv with rfl | rfl | rfl | rfl <;> first | (cases hr; done) | (cases hr; first | exact Or.inl (by decide) | exact Or.inr (by omega))), List.forall_mem_cons.mpr ⟨fun _ _ => trivial, fun _ h => absurd h List.not_mem_nil⟩⟩⟩⟩⟩⟩⟩⟩⟩⟩⟩⟩⟩⟩⟩⟩⟩⟩⟩
set_option maxRecDepth 100000 in
set_option maxHeartbeats 4000000 in
theorem o_Fa4_okP : ∀ F ∈ o_Fa4, o_okP F := List.forall_mem_cons.mpr ⟨fun _ _ => trivial, List.forall_mem_cons.mpr ⟨fun _ _ => trivial, List.forall_mem_cons.mpr ⟨(fun f z v hv r hr => by simp only [List.mem_cons, List.not_mem_nil, or_false] at hv; rcases hv with rfl | rfl | rfl | rfl | rfl | rfl <;> first | (cases hr; done) | (cases hr; first | exact Or.inl (by decide) | exact Or.inr (by omega))), List.forall_mem_cons.mpr ⟨fun _ _ => trivial, List.forall_mem_cons.mpr ⟨fun _ _ => trivial, List.forall_mem_cons.mpr ⟨fun _ _ => trivial, List.forall_mem_cons.mpr ⟨fun _ _ => trivial, List.forall_mem_cons.mpr ⟨fun _ _ => trivial, List.forall_mem_cons.mpr ⟨(fun f z v hv r hr => by simp only [List.mem_cons, List.not_mem_nil, or_false] at hv; rcases hv with rfl | rfl | rfl <;> first | (cases hr; done) | (cases hr; first | exact Or.inl (by decide) | exact Or.inr (by omega))), List.forall_mem_cons.mpr ⟨fun _ _ => trivial, List.forall_mem_cons.mpr ⟨fun _ _ => trivial, List.forall_mem_cons.mpr ⟨(fun f z v hv r hr => by simp only [List.mem_cons, List.not_mem_nil, or_false] at hv; rcases hv with rfl | rfl | rfl | rfl | rfl | rfl | rfl <;> first | (cases hr; done) | (cases hr; first | exact Or.inl (by decide) | exact Or.inr (by omega))), List.forall_mem_cons.mpr ⟨(fun f z v hv r hr => by simp only [List.mem_cons, List.not_mem_nil, or_false] at hv; rcases hv with rfl | rfl | rfl | rfl <;> first | (cases hr; done) | (cases hr; first | exact Or.inl (by decide) | exact Or.inr (by omega))), List.forall_mem_cons.mpr ⟨fun _ _ => trivial, List.forall_mem_cons.mpr ⟨fun _ _ => trivial, List.forall_mem_cons.mpr ⟨fun _ _ => trivial, List.forall_mem_cons.mpr ⟨(fun f z v hv r hr => by simp only [List.mem_cons, List.not_mem_nil, or_false] at hv; rcases hv with rfl | rfl | rfl | rfl | rfl | rfl <;> first | (cases hr; done) | (cases hr; first | exact Or.inl (by decide) | exact Or.inr (by omega))), List.forall_mem_cons.mpr ⟨fun _ _ => trivial, List.forall_mem_cons.mpr ⟨fun _ _ => trivial, fun _ h => absurd h List.not_mem_nil⟩⟩⟩⟩⟩⟩⟩⟩⟩⟩⟩⟩⟩⟩⟩⟩⟩⟩⟩
set_option maxRecDepth 100000 in
set_option maxHeartbeats 4000000 in
theorem o_Fa5_okP : ∀ F ∈ o_Fa5, o_okP F := List.forall_mem_cons.mpr ⟨fun _ _ => trivial, List.forall_mem_cons.mpr ⟨fun _ _ => trivial, List.forall_mem_cons.mpr ⟨fun _ _ => trivial, List.forall_mem_cons.mpr ⟨(fun f z v hv r hr => by simp only [List.mem_cons, List.not_mem_nil, or_false] at hv; rcases hv with rfl | rfl | rfl <;> first | (cases hr; done) | (cases hr; first | exact Or.inl (by decide) | exact Or.inr (by omega))), List.forall_mem_cons.mpr ⟨fun _ _ => trivial, List.forall_mem_cons.mpr ⟨fun _ _ => trivial, List.forall_mem_cons.mpr ⟨(fun f z v hv r hr => by simp only [List.mem_cons, List.not_mem_nil, or_false] at hv; rcases hv with rfl | rfl | rfl | rfl | rfl | rfl | rfl <;> first | (cases hr; done) | (cases hr; first | exact Or.inl (by decide) | exact Or.inr (by omega))), List.forall_mem_cons.mpr ⟨(fun f z v hv r hr => by simp only [List.mem_cons, List.not_mem_nil, or_false] at hv; rcases hv with rfl | rfl | rfl | rfl <;> first | (cases hr; done) | (cases hr; first | exact Or.inl (by decide) | exact Or.inr (by omega))), List.forall_mem_cons.mpr ⟨fun _ _ => trivial, List.forall_mem_cons.mpr ⟨fun _ _ => trivial, List.forall_mem_cons.mpr ⟨fun _ _ => trivial, List.forall_mem_cons.mpr ⟨(fun f z v hv r hr => by simp only [List.mem_cons, List.not_mem_nil, or_false] at hv; rcases hv with rfl | rfl | rfl | rfl | rfl | rfl <;> first | (cases hr; done) | (cases hr; first | exact Or.inl (by decide) | exact Or.inr (by omega))), List.forall_mem_cons.mpr ⟨fun _ _ => trivial, List.forall_mem_cons.mpr ⟨fun _ _ => trivial, List.forall_mem_cons.mpr ⟨fun _ _ => trivial, List.forall_mem_cons.mpr ⟨fun _ _ => trivial, List.forall_mem_cons.mpr ⟨fun _ _ => trivial, List.forall_mem_cons.mpr ⟨(fun f z v hv r hr => by simp only [List.mem_cons, List.not_mem_nil, or_false] at hv; rcases hv with rfl | rfl | rfl <;> first | (cases hr; done) | (cases hr; first | exact Or.inl (by decide) | exact Or.inr (by omega))), List.forall_mem_cons.mpr ⟨fun _ _ => trivial, fun _ h => absurd h List.not_mem_nil⟩⟩⟩⟩⟩⟩⟩⟩⟩⟩⟩⟩⟩⟩⟩⟩⟩⟩⟩
set_option maxRecDepth 100000 in
set_option maxHeartbeats 4000000 in
theorem o_Fa6_okP : ∀ F ∈ o_Fa6, o_okP F := List.forall_mem_cons.mpr ⟨fun _ _ => trivial, List.forall_mem_cons.mpr ⟨(fun f z v hv r hr => by simp only [List.mem_cons, List.not_mem_nil, or_false] at hv; rcases hv with rfl | rfl | rfl | rfl | rfl | rfl | rfl <;> first | (cases hr; done) | (cases hr; first | exact Or.inl (by decide) | exact Or.inr (by omega))), List.forall_mem_cons.mpr ⟨(fun f z v hv r hr => by simp only [List.mem_cons, List.not_mem_nil, or_false] at hv; rcases hv with rfl | rfl | rfl | rfl <;> first | (cases hr; done) | (cases hr; first | exact Or.inl (by decide) | exact Or.inr (by omega))), List.forall_mem_cons.mpr ⟨fun _ _ => trivial, List.forall_mem_cons.mpr ⟨fun _ _ => trivial, List.forall_mem_cons.mpr ⟨fun _ _ => trivial, List.forall_mem_cons.mpr ⟨(fun f z v hv r hr => by simp only [List.mem_cons, List.not_mem_nil, or_false] at hv; rcases hv with rfl | rfl | rfl | rfl | rfl | rfl <;> first | (cases hr; done) | (cases hr; first | exact Or.inl (by decide) | exact Or.inr (by omega))), List.forall_mem_cons.mpr ⟨fun _ _ => trivial, List.forall_mem_cons.mpr ⟨fun _ _ => trivial, List.forall_mem_cons.mpr ⟨fun _ _ => trivial, List.forall_mem_cons.mpr ⟨fun _ _ => trivial, List.forall_mem_cons.mpr ⟨fun _ _ => trivial, List.forall_mem_cons.mpr ⟨(fun f z v hv r hr => by simp only [List.mem_cons, List.not_mem_nil, or_false] at hv; rcases hv with rfl | rfl | rfl <;> first | (cases hr; done) | (cases hr; first | exact Or.inl (by decide) | exact Or.inr (by omega))), List.forall_mem_cons.mpr ⟨fun _ _ => trivial, List.forall_mem_cons.mpr ⟨fun _ _ => trivial, List.forall_mem_cons.mpr ⟨(fun f z v hv r hr => by simp only [List.mem_cons, List.not_mem_nil, or_false] at hv; rcases hv with rfl | rfl | rfl | rfl | rfl | rfl | rfl <;> first | (cases hr; done) | (cases hr; first | exact Or.inl (by decide) | exact Or.inr (by omega))), List.forall_mem_cons.mpr ⟨(fun f z v hv r hr => by simp only [List.mem_cons, List.not_mem_nil, or_false] at hv; rcases hv with rfl | rfl | rfl | rfl <;> first | (cases hr; done) | (cases hr; first | exact Or.inl (by decide) | exact Or.inr (by omega))), List.forall_mem_cons.mpr ⟨fun _ _ => trivial, List.forall_mem_cons.mpr ⟨fun _ _ => trivial, fun _ h => absurd h List.not_mem_nil⟩⟩⟩⟩⟩⟩⟩⟩⟩⟩⟩⟩⟩⟩⟩⟩⟩⟩⟩
set_option maxRecDepth 100000 in
set_option maxHeartbeats 4000000 in
theorem o_Fa7_okP : ∀ F ∈ o_Fa7, o_okP F := List.forall_mem_cons.mpr ⟨fun _ _ => trivial, List.forall_mem_cons.mpr ⟨(fun f z v hv r hr => by simp only [List.mem_cons, List.not_mem_nil, or_false] at hv; rcases hv with rfl | rfl | rfl | rfl | rfl | rfl <;> first | (cases hr; done) | (cases hr; first | exact Or.inl (by decide) | exact Or.inr (by omega))), List.forall_mem_cons.mpr ⟨fun _ _ => trivial, List.forall_mem_cons.mpr ⟨fun _ _ => trivial, List.forall_mem_cons.mpr ⟨fun _ _ => trivial, List.forall_mem_cons.mpr ⟨fun _ _ => trivial, List.forall_mem_cons.mpr ⟨fun _ _ => trivial, List.forall_mem_cons.mpr ⟨(fun f z v hv r hr => by simp only [List.mem_cons, List.not_mem_nil, or_false] at hv; rcases hv with rfl | rfl | rfl <;> first | (cases hr; done) | (cases hr; first | exact Or.inl (by decide) | exact Or.inr (by omega))), List.forall_mem_cons.mpr ⟨fun _ _ => trivial, List.forall_mem_cons.mpr ⟨fun _ _ => trivial, List.forall_mem_cons.mpr ⟨(fun f z v hv r hr => by simp only [List.mem_cons, List.not_mem_nil, or_false] at hv; rcases hv with rfl | rfl | rfl | rfl | rfl | rfl | rfl <;> first | (cases hr; done) | (cases hr; first | exact Or.inl (by decide) | exact Or.inr (by omega))), List.forall_mem_cons.mpr ⟨(fun f z v hv r hr => by simp only [List.mem_cons, List.not_mem_nil, or_false] at hv; rcases hv with rfl | rfl | rfl | rfl <;> first | (cases hr; done) | (cases hr; first | exact Or.inl (by decide) | exact Or.inr (by omega))), List.forall_mem_cons.mpr ⟨fun _ _ => trivial, List.forall_mem_cons.mpr ⟨fun _ _ => trivial, List.forall_mem_cons.mpr ⟨fun _ _ => trivial, List.forall_mem_cons.mpr ⟨(fun f z v hv r hr => by simp only [List.mem_cons, List.not_mem_nil, or_false] at hv; rcases hv with rfl | rfl | rfl | rfl | rfl | rfl <;> first | (cases hr; done) | (cases hr; first | exact Or.inl (by decide) | exact Or.inr (by omega))), List.forall_mem_cons.mpr ⟨fun _ _ => trivial, List.forall_mem_cons.mpr ⟨fun _ _ => trivial, List.forall_mem_cons.mpr ⟨fun _ _ => trivial, fun _ h => absurd h List.not_mem_nil⟩⟩⟩⟩⟩⟩⟩⟩⟩⟩⟩⟩⟩⟩⟩⟩⟩⟩⟩
set_option maxRecDepth 100000 in
set_option maxHeartbeats 4000000 in
theorem o_Fa8_okP : ∀ F ∈ o_Fa8, o_okP F := List.forall_mem_cons.mpr ⟨fun _ _ => trivial, List.forall_mem_cons.mpr ⟨fun _ _ => trivial, List.forall_mem_cons.mpr ⟨(fun f z v hv r hr => by simp only [List.mem_cons, List.not_mem_nil, or_false] at hv; rcases hv with rfl | rfl | rfl <;> first | (cases hr; done) | (cases hr; first | exact Or.inl (by decide) | exact Or.inr (by omega))), List.forall_mem_cons.mpr ⟨fun _ _ => trivial, List.forall_mem_cons.mpr ⟨fun _ _ => trivial, List.forall_mem_cons.mpr ⟨(fun f z v hv r hr => by simp only [List.mem_cons, List.not_mem_nil, or_false] at hv; rcases hv with rfl <;> first | (cases hr; done) | (cases hr; first | exact Or.inl (by decide) | exact Or.inr (by omega))), List.forall_mem_cons.mpr ⟨fun _ _ => trivial, List.forall_mem_cons.mpr ⟨(fun f z v hv r hr => by simp only [List.mem_cons, List.not_mem_nil, or_false] at hv; rcases hv with rfl | rfl | rfl | rfl <;> first | (cases hr; done) | (cases hr; first | exact Or.inl (by decide) | exact Or.inr (by omega))), List.forall_mem_cons.mpr ⟨fun _ _ => trivial, List.forall_mem_cons.mpr ⟨fun _ _ => trivial, List.forall_mem_cons.mpr ⟨fun _ _ => trivial, List.forall_mem_cons.mpr ⟨(fun f z v hv r hr => by simp only [List.mem_cons, List.not_mem_nil, or_false] at hv; rcases hv with rfl | rfl | rfl | rfl | rfl <;> first | (cases hr; done) | (cases hr; first | exact Or.inl (by decide) | exact Or.inr (by omega))), List.forall_mem_cons.mpr ⟨fun _ _ => trivial, List.forall_mem_cons.mpr ⟨(fun f z j r hr => by have hr := Option.some.inj hr; split at hr <;> (subst hr; exact Or.inl (by omega))), List.forall_mem_cons.mpr ⟨(fun f z v hv r hr => by simp only [List.mem_cons, List.not_mem_nil, or_false] at hv; rcases hv with rfl | rfl <;> first | (cases hr; done) | (cases hr; first | exact Or.inl (by decide) | exact Or.inr (by omega))), List.forall_mem_cons.mpr ⟨fun _ _ => trivial, List.forall_mem_cons.mpr ⟨(fun f z v hv r hr => by simp only [List.mem_cons, List.not_mem_nil, or_false] at hv; rcases hv with rfl | rfl <;> first | (cases hr; done) | (cases hr; first | exact Or.inl (by decide) | exact Or.inr (by omega))), List.forall_mem_cons.mpr ⟨fun _ _ => trivial, List.forall_mem_cons.mpr ⟨(fun f z v hv r hr => by simp only [List.mem_cons, List.not_mem_nil, or_false] at hv; rcases hv with rfl | rfl <;> first | (cases hr; done) | (cases hr; first | exact Or.inl (by decide) | exact Or.inr (by omega))), fun _ h => absurd h List.not_mem_nil⟩⟩⟩⟩⟩⟩⟩⟩⟩⟩⟩⟩⟩⟩⟩⟩⟩⟩⟩
set_option maxRecDepth 100000 in
set_option maxHeartbeats 4000000 in
theorem o_Fa9_okP : ∀ F ∈ o_Fa9, o_okP F := List.forall_mem_cons.mpr ⟨fun _ _ => trivial, List.forall_mem_cons.mpr ⟨(fun f z v hv r hr => by simp only [List.mem_cons, List.not_mem_nil, or_false] at hv; rcases hv with rfl | rfl <;> first | (cases hr; done) | (cases hr; first | exact Or.inl (by decide) | exact Or.inr (by omega))), List.forall_mem_cons.mpr ⟨fun _ _ => trivial, List.forall_mem_cons.mpr ⟨(fun f z v hv r hr => by simp only [List.mem_cons, List.not_mem_nil, or_false] at hv; rcases hv with rfl | rfl <;> first | (cases hr; done) | (cases hr; first | exact Or.inl (by decide) | exact Or.inr (by omega))), List.forall_mem_cons.mpr ⟨fun _ _ => trivial, List.forall_mem_cons.mpr ⟨(fun f z v hv r hr => by simp only [List.mem_cons, List.not_mem_nil, or_false] at hv; rcases hv with rfl | rfl <;> first | (cases hr; done) | (cases hr; first | exact Or.inl (by decide) | exact Or.inr (by omega))), List.forall_mem_cons.mpr ⟨fun _ _ => trivial, List.forall_mem_cons.mpr ⟨(fun f z v hv r hr => by simp only [List.mem_cons, List.not_mem_nil, or_false] at hv; rcases hv with rfl | rfl <;> first | (cases hr; done) | (cases hr; first | exact Or.inl (by decide) | exact Or.inr (by omega))), List.forall_mem_cons.mpr ⟨fun _ _ => trivial, List.forall_mem_cons.mpr ⟨(fun f z v hv r hr => by simp only [List.mem_cons, List.not_mem_nil, or_false] at hv; rcases hv with rfl | rfl <;> first | (cases hr; done) | (cases hr; first | exact Or.inl (by decide) | exact Or.inr (by omega))), List.forall_mem_cons.mpr ⟨fun _ _ => trivial, List.forall_mem_cons.mpr ⟨(fun f z v hv r hr => by simp only [List.mem_cons, List.not_mem_nil, or_false] at hv; rcases hv with rfl | rfl <;> first | (cases hr; done) | (cases hr; first | exact Or.inl (by decide) | exact Or.inr (by omega))), List.forall_mem_cons.mpr ⟨fun _ _ => trivial, List.forall_mem_cons.mpr ⟨(fun f z v hv r hr => by simp only [List.mem_cons, List.not_mem_nil, or_false] at hv; rcases hv with rfl | rfl <;> first | (cases hr; done) | (cases hr; first | exact Or.inl (by decide) | exact Or.inr (by omega))), List.forall_mem_cons.mpr ⟨fun _ _ => trivial, List.forall_mem_cons.mpr ⟨(fun f z v hv r hr => by simp only [List.mem_cons, List.not_mem_nil, or_false] at hv; rcases hv with rfl | rfl <;> first | (cases hr; done) | (cases hr; first | exact Or.inl (by decide) | exact Or.inr (by omega))), List.forall_mem_cons.mpr ⟨fun _ _ => trivial, List.forall_mem_cons.mpr ⟨(fun f z v hv r hr => by simp only [List.mem_cons, List.not_mem_nil, or_false] at hv; rcases hv with rfl | rfl <;> first | (cases hr; done) | (cases hr; first | exact Or.inl (by decide) | exact Or.inr (by omega))), List.forall_mem_cons.mpr ⟨fun _ _ => trivial, fun _ h => absurd h List.not_mem_nil⟩⟩⟩⟩⟩⟩⟩⟩⟩⟩⟩⟩⟩⟩⟩⟩⟩⟩⟩
set_option maxRecDepth 100000 in
set_option maxHeartbeats 4000000 in
theorem o_Fa10_okP : ∀ F ∈ o_Fa10, o_okP F := fun _ h => absurd h List.not_mem_nil
theorem o_Fm_okP : ∀ F ∈ o_Fm, o_okP F := List.forall_mem_cons.mpr ⟨(fun f z v hv r hr => by simp only [List.mem_cons, List.not_mem_nil, or_false] at hv; rcases hv with rfl | rfl | rfl | rfl <;> first | (cases hr; done) | (cases hr; first | exact Or.inl (by decide) | exact Or.inr (by omega))), List.forall_mem_cons.mpr ⟨fun _ _ => trivial, fun _ h => absurd h List.not_mem_nil⟩⟩
theorem o_Fl_okP : ∀ F ∈ o_Fl, o_okP F := List.forall_mem_append.mpr ⟨o_Fa0_okP, List.forall_mem_append.mpr ⟨o_Fa1_okP, List.forall_mem_append.mpr ⟨o_Fa2_okP, List.forall_mem_append.mpr ⟨o_Fa3_okP, List.forall_mem_append.mpr ⟨o_Fa4_okP, List.forall_mem_append.mpr ⟨o_Fa5_okP, List.forall_mem_append.mpr ⟨o_Fa6_okP, List.forall_mem_append.mpr ⟨o_Fa7_okP, List.forall_mem_append.mpr ⟨o_Fa8_okP, o_Fa9_okP⟩⟩⟩⟩⟩⟩⟩⟩⟩
set_option maxRecDepth 100000 in
theorem o_F_okP : ∀ F ∈ o_F, o_okP F := by
  rw [o_F_cut]
  exact List.forall_mem_append.mpr ⟨o_Fl_okP, List.forall_mem_append.mpr ⟨o_Fm_okP, o_Fa10_okP⟩⟩
set_option maxRecDepth 100000 in
theorem o_F_len : o_F.length = 192 := rfl
theorem o_mem_ok (g : Nat → Nat → Int) : o_ok 192 (o_mem g) := by
  intro k hk
  show o_okC 192 ((o_F.getD k _) (g k) (g 190 9))
  rw [List.getD_eq_getElem?_getD, List.getElem?_eq_getElem (by rw [o_F_len]; exact hk)]
  exact o_F_okP _ (List.getElem_mem _) _ _
/-- a cell beside the office's: it only speaks of the next one, and of constants -/
def g_okC (N k : Nat) : o_C → Prop
  | .inl a => match a.2.2 with
    | .inr (.inr (.inr (.inr f))) => ∀ j r : Nat, f j = some r → (r = k + 1 ∧ k + 1 < N) ∨ 1000000 ≤ r
    | _ => True
  | .inr o => ∀ v ∈ o.2, ∀ r : Nat, v = .ref r → (r = k + 1 ∧ k + 1 < N) ∨ 1000000 ≤ r
theorem g_okC.mono {N N' k : Nat} (hN : N ≤ N') {c : o_C} (hc : g_okC N k c) : g_okC N' k c := by
  rcases c with ⟨t, len, f⟩ | ⟨ci, fs⟩
  · rcases f with f | f | f | f | f
    · exact trivial
    · exact trivial
    · exact trivial
    · exact trivial
    · exact fun j r hr => (hc j r hr).elim (fun q => Or.inl ⟨q.1, Nat.lt_of_lt_of_le q.2 hN⟩) Or.inr
  · exact fun v hv r hr => (hc v hv r hr).elim (fun q => Or.inl ⟨q.1, Nat.lt_of_lt_of_le q.2 hN⟩) Or.inr
theorem g_okC.ok {N k : Nat} {c : o_C} (hc : g_okC N k c) : o_okC N c := by
  rcases c with ⟨t, len, f⟩ | ⟨ci, fs⟩
  · rcases f with f | f | f | f | f
    · exact trivial
    · exact trivial
    · exact trivial
    · exact trivial
    · exact fun j r hr => (hc j r hr).elim (fun q => Or.inl (by omega)) Or.inr
  · exact fun v hv r hr => (hc v hv r hr).elim (fun q => Or.inl (by omega)) Or.inr
theorem g_okC.rC {N k : Nat} {c : o_C} (hc : g_okC N k c) {ad1 ad2 : Nat → Nat} {cy : Nat → ClassId} (e : ∀ r, r = k + 1 ∨ 1000000 ≤ r → ad1 r = ad2 r) : o_rC ad1 cy c = o_rC ad2 cy c := by
  rcases c with ⟨t, len, f⟩ | ⟨ci, fs⟩
  · rcases f with f | f | f | f | f
    · rfl
    · rfl
    · rfl
    · rfl
    · show (Sum.inl (cy t, (len, Sum.inr (Sum.inr (Sum.inr (Sum.inr (fun j => (f j).map ad1)))))) : va_E) = Sum.inl (cy t, (len, Sum.inr (Sum.inr (Sum.inr (Sum.inr (fun j => (f j).map ad2))))))
      rw [show (fun j => (f j).map ad1) = fun j => (f j).map ad2 from funext fun j => by
        rcases hj : f j with _ | r
        · rfl
        · exact congrArg some (e r ((hc j r hj).imp_left And.left))]
  · show (Sum.inr (ci, fs.map (o_rV ad1)) : va_E) = Sum.inr (ci, fs.map (o_rV ad2))
    congr 2
    refine List.map_congr_left fun v hv => ?_
    cases v with
    | ref k => exact congrArg Value.ref (e k ((hc _ hv k rfl).imp_left And.left))
    | _ => rfl
def t_H (N : Nat) (g : Nat → Nat → Int) (h : Nat → o_C) : Prop := (∀ k, k < 192 → h k = o_mem g k) ∧ (∀ k, 192 ≤ k → k < N → g_okC N k (h k)) ∧ 192 ≤ N ∧ N ≤ 999000
theorem t_H0 (g : Nat → Nat → Int) : t_H 192 g (o_mem g) := ⟨fun _ _ => rfl, fun k h1 h2 => by omega, Nat.le_refl _, by decide⟩
theorem t_H.ok {N : Nat} {g : Nat → Nat → Int} {h : Nat → o_C} (hH : t_H N g h) : o_ok N h := by
  intro k hk
  rcases Nat.lt_or_ge k 192 with q | q
  · rw [hH.1 k q]
    exact (o_mem_ok g k q).mono hH.2.2.1
  · exact (hH.2.1 k q hk).ok
theorem t_H.fh {N : Nat} {g g' : Nat → Nat → Int} {h : Nat → o_C} (hH : t_H N g h) : t_H N g' (f_h 192 (o_mem g') h) ∧ ∀ k, 192 ≤ k → f_h 192 (o_mem g') h k = h k :=
  ⟨⟨fun k hk => if_pos hk, fun k h1 h2 => by unfold f_h; rw [if_neg (by omega)]; exact hH.2.1 k h1 h2, hH.2.2⟩, fun k hk => if_neg (by omega)⟩
/-- a builder at b, its bytes at b + 1 -/
def t_B (N : Nat) (h : Nat → o_C) (b : Nat) (L : List Int) : Prop := 192 ≤ b ∧ b + 1 < N ∧ ∃ g, s9_sb g L ∧ h b = sbC0 b g ∧ h (b + 1) = sbC1 g
/-- a String; its bytes at t_w r -/
def t_w (r : Nat) : Nat := if r < 1000000 then r + 1 else r + 1000000
def t_S (N : Nat) (h : Nat → o_C) (r : Nat) (L : List Int) : Prop := 192 ≤ r ∧ o_SA N h r (t_w r) L
theorem t_B.mv {N N' : Nat} {h h' : Nat → o_C} {b : Nat} {L : List Int} (hB : t_B N h b L) (hN : N ≤ N') (e0 : h' b = h b) (e1 : h' (b + 1) = h (b + 1)) : t_B N' h' b L := by
  obtain ⟨a, b1, g, c, d1, d2⟩ := hB
  exact ⟨a, by omega, g, c, e0.trans d1, e1.trans d2⟩
theorem t_S.mv {N N' : Nat} {h h' : Nat → o_C} {r : Nat} {L : List Int} (hS : t_S N h r L) (hN : N ≤ N') (e : ∀ k, k = r ∨ k = t_w r → k < N → h' k = h k) : t_S N' h' r L :=
  ⟨hS.1, hS.2.mv hN ⟨fun q => e r (Or.inl rfl) q, fun q => e _ (Or.inr rfl) q⟩⟩
theorem t_wC (num : Nat) : t_w (2000000 + num) = 3000000 + num := by
  unfold t_w
  rw [if_neg (by omega)]
  omega
theorem t_wH {r : Nat} (h : r < 1000000) : t_w r = r + 1 := if_pos h
theorem t_SC {N num : Nat} {h : Nat → o_C} {L : List Int} (hw : s_wt num L) (hc : ∀ c ∈ L, 0 ≤ c ∧ c < 128) (hl : L.length ≤ 109) : t_S N h (2000000 + num) L := ⟨by omega, hc, hl, Or.inl ⟨num, rfl, t_wC num, hw⟩⟩
theorem t_sep {N b r : Nat} {g : Nat → Nat → Int} {h : Nat → o_C} {L S : List Int} (hH : t_H N g h) (hB : t_B N h b L) (hS : t_S N h r S) : r ≠ b ∧ r ≠ b + 1 ∧ t_w r ≠ b ∧ t_w r ≠ b + 1 := by
  obtain ⟨b0, b1, g9, -, e0, e1⟩ := hB
  have hN := hH.2.2.2
  rcases hS.2.2.2 with ⟨num, rfl, e, -⟩ | ⟨c1, c2, ⟨x, y, c3⟩, f, c4, -⟩
  · rw [e]
    exact ⟨by omega, by omega, by omega, by omega⟩
  · have n1 : r ≠ b := fun z => by subst z; rw [e0] at c3; cases c3
    have n2 : r ≠ b + 1 := fun z => by subst z; rw [e1] at c3; cases c3
    have n3 : t_w r ≠ b := fun z => by rw [z, e0] at c4; cases c4
    refine ⟨n1, n2, n3, ?_⟩
    rw [t_wH (by omega)]
    omega
/-- two builders -/
theorem t_sepB {N b c : Nat} {h : Nat → o_C} {L S : List Int} (hB : t_B N h b L) (hC : t_B N h c S) (hn : b ≠ c) : b ≠ c + 1 ∧ c ≠ b + 1 := by
  obtain ⟨b0, b1, g9, -, e0, e1⟩ := hB
  obtain ⟨c0, c1, g8, -, f0, f1⟩ := hC
  exact ⟨fun z => (by rw [← z, e0] at f1; cases f1), fun z => (by rw [← z, f0] at e1; cases e1)⟩
theorem t_H.sb {N b : Nat} {g g8 : Nat → Nat → Int} {h : Nat → o_C} (hH : t_H N g h) (b0 : 192 ≤ b) (b1 : b + 1 < N) : t_H N g (sbH h b g8) := by
  refine ⟨fun k hk => ?_, fun k h1 h2 => ?_, hH.2.2⟩
  · rw [sbH_n (by omega) (by omega)]
    exact hH.1 k hk
  · by_cases q : k = b
    · subst q
      rw [sbH_0]
      intro v hv r hr
      simp only [List.mem_cons, List.not_mem_nil, or_false] at hv
      rcases hv with rfl | rfl | rfl | rfl <;> first | (cases hr; done) | (cases hr; exact Or.inl ⟨rfl, b1⟩)
    · by_cases w : k = b + 1
      · subst w
        rw [sbH_1]
        exact trivial
      · rw [sbH_n q w]
        exact hH.2.1 k h1 h2
theorem t_H.nr {N b : Nat} {g : Nat → Nat → Int} {h : Nat → o_C} (hH : t_H N g h) (b0 : 192 ≤ b) (b1 : b + 1 < N) : nrG (b + 1) N h (fun k => k ≠ b ∧ k ≠ b + 1) := by
  intro k hk hP ad1 ad2 cy e
  have hN := hH.2.2.2
  rcases Nat.lt_or_ge k 192 with q | q
  · rw [hH.1 k q]
    exact rC_ok (o_mem_ok g k q) (fun r hr => e r (by omega))
  · exact (hH.2.1 k q hk).rC (fun r hr => e r (by have := hP.1; omega))
theorem t_eh {b : Nat} {g : Nat → Nat → Int} {h : Nat → o_C} (e0 : h b = sbC0 b g) (e1 : h (b + 1) = sbC1 g) : h = sbH h b g := by
  funext k
  by_cases q : k = b
  · subst q; rw [sbH_0]; exact e0
  · by_cases w : k = b + 1
    · subst w; rw [sbH_1]; exact e1
    · rw [sbH_n q w]
theorem hL_lt {L R : List o_C} {k : Nat} (hk : k < L.length) : o_hL (L ++ R) k = o_hL L k := by
  unfold o_hL
  rw [List.getD_eq_getElem?_getD, List.getD_eq_getElem?_getD, List.getElem?_append_left hk]
theorem hL_ge {L R : List o_C} {j : Nat} : o_hL (L ++ R) (L.length + j) = R.getD j (.inr (0, [])) := by
  unfold o_hL
  rw [List.getD_eq_getElem?_getD, List.getD_eq_getElem?_getD, List.getElem?_append_right (by omega), Nat.add_sub_cancel_left]
def t_g0 : Nat → Nat → Int := fun a j => if a = 0 ∧ j = 9 then 16 else 0
section TX
variable {l : Launch} {M : o_M} {d : Nat} {al : Nat → Prop} {post : o_P} {pc : Nat} {ls : List (Nat × Value)} {st rest : List Value} {mc ms N : Nat} {g : Nat → Nat → Int} {h : Nat → o_C}
/-- cells at the end are forgotten -/
theorem o_cut {n : Nat} {h' : Nat → o_C} (hn : n ≤ N) (eh : ∀ k, k < n → h k = h' k) (k : o_V l M d al post pc ls st n h' mc ms) : o_V l M d al post pc ls st N h mc ms := by
  intro Z p e R s m args below meth c ad H locs cells slots MC MS la Q X E S P a1 a2 a3 a4 L K
  have hg : ∀ (k : Nat) (q : Nat × va_E), (o_rW ad Z.2.2.1 n h')[k]? = some q → (o_rW ad Z.2.2.1 N h)[k]? = some q := fun k q hk => by
    obtain ⟨hk1, rfl⟩ := rW_iff.mp hk
    exact rW_iff.mpr ⟨by omega, by rw [eh k hk1]⟩
  exact k Z p e R s m args below meth c ad H locs cells slots MC MS la Q X E S ⟨fun k q hk => P.1 k q (hg k q hk), fun i j p9 q hi hj e9 => P.2.1 i j p9 q (hg i p9 hi) (hg j q hj) e9, fun k q hk => P.2.2 k q (hg k q hk)⟩ a1 a2 a3 a4 L K
/-- a new builder -/
theorem tx_new {i j : Nat} (hl9 : l.stackTraces = false) (hH : t_H N g h) (hN : N ≤ 790000) (hal : ∀ k, N ≤ k → k < 1000000 → al k) (hd0 : decode M.2.1 pc = .ok (.new i, 3)) (hk : Cond.classLink M.1 i RJ4 ∈ o_gW) (hd3 : decode M.2.1 (pc + 3) = .ok (.dup, 1)) (hd4 : decode M.2.1 (pc + 3 + 1) = .ok (.invokespecial j, 3)) (hml : Cond.methodLink M.1 j yJ4_init_da8c8 ∈ o_gW)
    (hls : ∀ q ∈ ls, ∀ k : Nat, q.2 = .ref k → k < N ∨ 1000000 ≤ k) (hst : ∀ v ∈ st, ∀ k : Nat, v = .ref k → k < N ∨ 1000000 ≤ k) (hcat : (st.map fun v => v.category).sum ≤ 6) (hdd : 2 < d) (hmc : 2 ≤ mc) (hms : 20 ≤ ms)
    (k : ∀ h', t_H (N + 2) g h' → t_B (N + 2) h' N [] → (∀ k, k < N → h' k = h k) → o_V l M d al post (pc + 3 + 1 + 3) ls (.ref N :: st) (N + 2) h' (mc - 2) (ms - 20)) : o_V l M d al post pc ls st N h mc ms := by
  obtain ⟨L, hL⟩ : ∃ L : List o_C, L = (List.range N).map h := ⟨_, rfl⟩
  have hlen : L.length = N := by rw [hL]; simp
  have eL : ∀ k, k < N → o_hL L k = h k := fun k hk => by
    rw [hL]
    unfold o_hL
    rw [List.getD_eq_getElem?_getD, List.getElem?_map, List.getElem?_range hk]
    rfl
  have hb9 := hH.2.2
  refine o_hcg (h' := o_hL L) (fun k hk => (eL k hk).symm) ?_
  have ok0 : o_ok N (o_hL L) := fun k hk => by rw [eL k hk]; exact hH.ok k hk
  refine o_new (ci := 11) (N := 4) (C := RJ4) (T := TJ4) (fs := [.null, .int (o_I 0), .int (o_I 0), .int (o_I 0)]) (ty := tyJ4) ok0 (by omega) (hal N (Nat.le_refl _) (by omega)) hd0 hk (o_gT (i := 275) (by decide +kernel) rfl) (o_gT (i := 14) (by decide +kernel) rfl) rfl tyJ4_ok (fun j hj => by
    rcases (by omega : j = 0 ∨ j = 1 ∨ j = 2 ∨ j = 3) with rfl | rfl | rfl | rfl <;> rfl) (fun v hv r => by
    simp only [List.mem_cons, List.not_mem_nil, or_false] at hv
    rcases hv with rfl | rfl | rfl | rfl <;> exact fun z => by cases z) ⟨fun q hq (k : Nat) hk => by have := hls q hq k hk; omega, fun v hv (k : Nat) hk => by have := hst v hv k hk; omega⟩ (by omega) (by omega) (fun ok1 => ?_)
  have e9 : ∀ c : o_C, o_up (o_hL L) N c = o_hL (L ++ [c]) := fun c => by
    have t := o_hA (L := L) (R := []) (n := N) (by rw [List.append_nil]; exact hlen) c
    rw [List.append_nil] at t
    exact t
  rw [e9] at ok1 ⊢
  refine o_dup hd3 rfl ?_
  refine o_callI (aly := x_al N) [] (ct_J4_init_da8c8 hl9 0 L N hlen (by omega) ok1) hd4 hml yi_J4_init_da8c8 rfl rfl (by decide) (by omega) (by omega) (by omega) rfl (by show (Value.category (.ref N)) + (st.map fun v => v.category).sum ≤ 8; show 1 + _ ≤ 8; omega) (fun k hk => hal k (by have := hk.1; omega) hk.2) (fun k hk => hk.2) (Or.inr ⟨fun q hq (k : Nat) hk z => by have := hls q hq k hk; have := z.1; have := z.2; omega, fun v hv (k : Nat) hk z => ?_⟩) (fun v9 n9 h9 q9 => ?_) (fun E n9 h9 q9 => by cases q9.1)
  · have := z.1
    have := z.2
    rcases List.mem_cons.mp hv with rfl | hv
    · cases hk; omega
    · have := hst v hv k hk; omega
  obtain ⟨q1, q2, q3, ok2⟩ := q9
  subst q2
  subst q3
  cases q1
  have c0 : ∀ k, k < N → o_hL (L ++ x_cJ N) k = h k := fun k hk => (hL_lt (by omega)).trans (eL k hk)
  have c1 : o_hL (L ++ x_cJ N) N = sbC0 N t_g0 := by
    have t := hL_ge (L := L) (R := x_cJ N) (j := 0)
    rw [hlen] at t
    exact t
  have c2 : o_hL (L ++ x_cJ N) (N + 1) = sbC1 t_g0 := by
    have t := hL_ge (L := L) (R := x_cJ N) (j := 1)
    rw [hlen] at t
    exact t
  refine o_mono (mc' := mc - 2) (ms' := ms - 20) (by omega) (by omega) (k _ ⟨fun k hk => (c0 k (by omega)).trans (hH.1 k hk), fun k h1 h2 => ?_, by omega, by omega⟩ ⟨by omega, by omega, t_g0, ⟨rfl, ⟨16, rfl, by decide, Nat.zero_le _, fun j _ => ⟨Int.le_refl 0, (show (0 : Int) < 128 by decide)⟩⟩, rfl, fun j hj => absurd hj (Nat.not_lt_zero j)⟩, c1, c2⟩ c0)
  rcases Nat.lt_or_ge k N with q | q
  · rw [c0 k q]
    exact (hH.2.1 k h1 q).mono (by omega)
  · rcases (by omega : k = N ∨ k = N + 1) with w | w
    · rw [w, c1]
      intro v hv r hr
      simp only [List.mem_cons, List.not_mem_nil, or_false] at hv
      rcases hv with rfl | rfl | rfl | rfl <;> first | (cases hr; done) | (cases hr; exact Or.inl ⟨rfl, by omega⟩)
    · rw [w, c2]
      exact trivial
/-- append(text) -/
theorem tx_app {b r i : Nat} {L S : List Int} (hl9 : l.stackTraces = false) (hH : t_H N g h) (hB : t_B N h b L) (hS : t_S N h r S) (hd : decode M.2.1 pc = .ok (.invokevirtual i, 3)) (hml : Cond.methodLink M.1 i yJ4_append_15ec4 ∈ o_gW) (hlen : L.length + S.length ≤ 109) (hal : al (b + 1)) (hls : ∀ q ∈ ls, ∀ k : Nat, q.2 = .ref k → k ≠ b + 1) (hst : ∀ v ∈ rest, ∀ k : Nat, v = .ref k → k ≠ b + 1) (hcat : (rest.map fun v => v.category).sum ≤ 8) (hdd : 5 < d) (hmc : 1 ≤ mc) (hms : 220 ≤ ms)
    (k : ∀ h', t_H N g h' → t_B N h' b (L ++ S) → (∀ k, k ≠ b → k ≠ b + 1 → h' k = h k) → o_V l M d al post (pc + 3) ls (.ref b :: rest) N h' (mc - 1) (ms - 220)) : o_V l M d al post pc ls (.ref r :: .ref b :: rest) N h mc ms := by
  have hsep := t_sep hH hB hS
  obtain ⟨b0, b1, g9, hsb, e0, e1⟩ := hB
  have hb9 := hH.2.2.2
  refine o_hcg (h' := sbH h b g9) (fun k _ => congrFun (t_eh e0 e1) k) ?_
  refine o_callV (aly := fun k => k = b + 1) [.ref r] (cg_append hl9 0 N b h g9 L hsb r (t_w r) S hS.2 hsep b1 (by omega) (hH.nr b0 b1) hlen) hd hml yw_J4_append_15ec4 rfl (by decide) (by omega) hmc hms (by omega) sbH_0 rfl rfl hcat (fun k z => by rw [z]; exact hal) (fun k z => by omega) (Or.inr ⟨hls, hst⟩) (fun v9 n9 h9 q9 => ?_) (fun E n9 h9 q9 => by obtain ⟨-, g8, -, -, q⟩ := q9; cases q)
  obtain ⟨rfl, g8, hsb8, rfl, w1⟩ := q9
  cases w1
  exact k _ (hH.sb b0 b1) ⟨b0, b1, g8, hsb8, sbH_0, sbH_1⟩ (fun k h1 h2 => sbH_n h1 h2)
/-- append(int) -/
theorem tx_int {b i v : Nat} {L : List Int} (hl9 : l.stackTraces = false) (hH : t_H N g h) (hB : t_B N h b L) (hv : v < 10000000) (hd : decode M.2.1 pc = .ok (.invokevirtual i, 3)) (hml : Cond.methodLink M.1 i yJ4_append_bf812 ∈ o_gW) (hlen : L.length ≤ 102) (hal : al (b + 1)) (hls : ∀ q ∈ ls, ∀ k : Nat, q.2 = .ref k → k ≠ b + 1) (hst : ∀ v ∈ rest, ∀ k : Nat, v = .ref k → k ≠ b + 1) (hcat : (rest.map fun v => v.category).sum ≤ 8) (hdd : 5 < d) (hmc : 1 ≤ mc) (hms : 220 ≤ ms)
    (k : ∀ h', t_H N g h' → t_B N h' b (L ++ t_nf 8 v) → (∀ k, k ≠ b → k ≠ b + 1 → h' k = h k) → o_V l M d al post (pc + 3) ls (.ref b :: rest) N h' (mc - 1) (ms - 220)) : o_V l M d al post pc ls (.int (o_I (v : Int)) :: .ref b :: rest) N h mc ms := by
  obtain ⟨b0, b1, g9, hsb, e0, e1⟩ := hB
  have hb9 := hH.2.2.2
  refine o_hcg (h' := sbH h b g9) (fun k _ => congrFun (t_eh e0 e1) k) ?_
  refine o_callV (aly := fun k => k = b + 1) [.int (o_I (v : Int))] (o_Ct.em (G := h) (b := b) (N := N) (cs_J4_append_bf812 hl9 0 g9 L hsb v hv hlen) (Or.inr (Or.inl rfl)) (fun v hv (k : Nat) hk => by rcases List.mem_singleton.mp hv with rfl; cases hk) b1 (by omega) (hH.nr b0 b1)) hd hml yw_J4_append_bf812 rfl (by decide) (by omega) hmc hms (by omega) sbH_0 rfl rfl hcat (fun k z => by rw [z]; exact hal) (fun k z => by omega) (Or.inr ⟨hls, hst⟩) (fun v9 n9 h9 q9 => ?_) (fun E n9 h9 q9 => by obtain ⟨-, g8, -, -, q⟩ := q9; cases q)
  obtain ⟨rfl, g8, ⟨hsb8, -⟩, rfl, w1⟩ := q9
  cases w1
  exact k _ (hH.sb b0 b1) ⟨b0, b1, g8, hsb8, sbH_0, sbH_1⟩ (fun k h1 h2 => sbH_n h1 h2)
/-- toString() -/
theorem tx_str {b i : Nat} {L : List Int} (hl9 : l.stackTraces = false) (hH : t_H N g h) (hB : t_B N h b L) (hN : N ≤ 790000) (hd : decode M.2.1 pc = .ok (.invokevirtual i, 3)) (hml : Cond.methodLink M.1 i yJ4_toString_0e30d ∈ o_gW) (hlen : L.length ≤ 109) (hal : ∀ k, N ≤ k → k < 1000000 → al k) (hls : ∀ q ∈ ls, ∀ k : Nat, q.2 = .ref k → k < N ∨ 1000000 ≤ k) (hst : ∀ v ∈ rest, ∀ k : Nat, v = .ref k → k < N ∨ 1000000 ≤ k) (hcat : (rest.map fun v => v.category).sum ≤ 8) (hdd : 6 < d) (hmc : 2 ≤ mc) (hms : 224 ≤ ms)
    (k : ∀ h', t_H (N + 2) g h' → t_S (N + 2) h' N L → (∀ k, k < N → h' k = h k) → o_V l M d al post (pc + 3) ls (.ref N :: rest) (N + 2) h' (mc - 2) (ms - 224)) : o_V l M d al post pc ls (.ref b :: rest) N h mc ms := by
  obtain ⟨b0, b1, g9, hsb, e0, e1⟩ := hB
  have hb9 := hH.2.2
  refine o_callV (aly := fun k => k = N ∨ k = N + 1) [] (cg_toString hl9 0 N h hH.ok (by omega) b g9 L hsb b1 e0 e1) hd hml yw_J4_toString_0e30d rfl (by decide) (by omega) hmc hms (by omega) e0 rfl rfl hcat (fun k z => hal k (by omega) (by omega)) (fun k z => by omega) (Or.inr ⟨fun q hq (k : Nat) hk z => by have := hls q hq k hk; omega, fun v hv (k : Nat) hk z => by have := hst v hv k hk; omega⟩) (fun v9 n9 h9 q9 => ?_) (fun E n9 h9 q9 => by cases q9.1)
  obtain ⟨w1, rfl, f, hf, e8⟩ := q9
  cases w1
  have c0 : ∀ k, k < N → h9 k = h k := fun k hk => by
    rw [e8]
    unfold o_up
    rw [if_neg (by omega), if_neg (by omega)]
  have c1 : h9 N = .inr (10, [.ref (N + 1), .int (o_I 0), .int (o_I 0), .int (o_I 0)]) := by
    rw [e8]
    unfold o_up
    rw [if_neg (by omega), if_pos rfl]
  have c2 : h9 (N + 1) = .inl (3, L.length, .inl (fun j => o_I (f j))) := by
    rw [e8]
    unfold o_up
    rw [if_pos rfl]
  refine k h9 ⟨fun k hk => (c0 k (by omega)).trans (hH.1 k hk), fun k h1 h2 => ?_, by omega, by omega⟩ ⟨by omega, fun c hc => ?_, hlen, Or.inr ⟨by omega, by rw [t_wH (by omega)]; omega, ⟨0, 0, by rw [t_wH (by omega)]; exact c1⟩, f, by rw [t_wH (by omega)]; exact c2, hf⟩⟩ c0
  · rcases Nat.lt_or_ge k N with q | q
    · rw [c0 k q]
      exact (hH.2.1 k h1 q).mono (by omega)
    · rcases (by omega : k = N ∨ k = N + 1) with w | w
      · rw [w, c1]
        intro v hv r hr
        simp only [List.mem_cons, List.not_mem_nil, or_false] at hv
        rcases hv with rfl | rfl | rfl | rfl <;> first | (cases hr; done) | (cases hr; exact Or.inl ⟨rfl, by omega⟩)
      · rw [w, c2]
        exact trivial
  · obtain ⟨j, hj, rfl⟩ := List.getElem_of_mem hc
    obtain ⟨-, ⟨c9, -, -, s3, s4⟩, -, s5⟩ := hsb
    have t := s4 j (by omega)
    rw [s5 j hj, List.getD_eq_getElem?_getD, List.getElem?_eq_getElem hj] at t
    exact t
/-- text.length() -/
theorem tx_len {r i : Nat} {L : List Int} (hl9 : l.stackTraces = false) (hS : t_S N h r L) (hd : decode M.2.1 pc = .ok (.invokevirtual i, 3)) (hml : Cond.methodLink M.1 i yJ0_length_8abf5 ∈ o_gW) (hcat : (rest.map fun v => v.category).sum ≤ 8) (hdd : 2 < d)
    (k : o_V l M d al post (pc + 3) ls (.int (o_I (L.length : Int)) :: rest) N h mc ms) : o_V l M d al post pc ls (.ref r :: rest) N h mc ms :=
  o_cG RJ0 [] (cg_length hl9 0 N h r (t_w r) L hS.2) hd hml yw_J0_length_8abf5 rfl (by decide) (by omega) (s_rc hS.2) rfl hcat k
/-- text.charAt(i) -/
theorem tx_chr {r i : Nat} {L : List Int} {x : Int} (hl9 : l.stackTraces = false) (hS : t_S N h r L) (hx : 0 ≤ x ∧ x < L.length) (hd : decode M.2.1 pc = .ok (.invokevirtual i, 3)) (hml : Cond.methodLink M.1 i yJ0_charAt_5068e ∈ o_gW) (hcat : (rest.map fun v => v.category).sum ≤ 8) (hdd : 5 < d)
    (k : o_V l M d al post (pc + 3) ls (.int (o_I (L.getD x.toNat 0)) :: rest) N h mc ms) : o_V l M d al post pc ls (.int (o_I x) :: .ref r :: rest) N h mc ms :=
  o_cG RJ0 [.int (o_I x)] (cg_charAt hl9 0 N h r (t_w r) L hS.2 x hx) hd hml yw_J0_charAt_5068e rfl (by decide) (by omega) (s_rc hS.2) rfl hcat k
end TX
/-- a contract of the office's, beside other cells -/
theorem tx_fr {l : Launch} {y : MethodName} {cw : Cond} {dy mcy msy N : Nat} {aly : Nat → Prop} {av : List Value} {g M' : Nat → Nat → Int} {h : Nat → o_C} {P' : List (Nat → Nat → Int)} {S' : Option (Nat → Nat → Int)} {T' : Nat → Nat → Int} {v : Value} (hC : o_Ct l y cw dy aly av o_N (o_mem g) mcy msy (y_x v M' P' S' T')) (hH : t_H N g h) (hv : ∀ k : Nat, v = .ref k → k < 192 ∨ 1000000 ≤ k) (hal : ∀ k, aly k → 191 ≤ k ∧ k ≤ 192) :
    o_Ct l y cw dy (fun k => aly k ∧ k < 192) av N h mcy msy (fun o n' h' => o = .inl (some v) ∧ n' = N ∧ ∃ g', o_xd g' M' P' S' T' ∧ t_H N g' h' ∧ ∀ k, 192 ≤ k → h' k = h k) := by
  have hb9 := hH.2.2
  refine o_Ct.wk (o_Ct.fr (n := 192) (N := N) (h := o_mem g) (G := h) hC hb9.1 (by omega) (fun k hk => by have := hal k hk; omega) hH.1 (fun o n' h' q => ?_) (fun k h1 h2 ad1 ad2 cy e => (hH.2.1 k h1 h2).rC (fun r hr => e r (fun z => by omega)))) (fun o n' h' q => ?_)
  · obtain ⟨q1, ⟨g', rfl, -⟩, q3⟩ := q
    exact ⟨q1, o_mem_ok g', fun k hk => by rw [q3] at hk; exact hv k (Option.some.inj (Sum.inl.inj hk))⟩
  · obtain ⟨rfl, h0, ⟨-, ⟨g', rfl, hx⟩, q3⟩, rfl⟩ := q
    exact ⟨q3, rfl, g', hx, hH.fh.1, hH.fh.2⟩
section TY
variable {l : Launch} {Mt : o_M} {d : Nat} {al : Nat → Prop} {post : o_P} {pc : Nat} {ls : List (Nat × Value)} {st rest : List Value} {mc ms N : Nat} {g M' : Nat → Nat → Int} {h : Nat → o_C} {P' : List (Nat → Nat → Int)} {S' : Option (Nat → Nat → Int)} {T' : Nat → Nat → Int} {v : Value}
theorem tx_v {y : MethodName} {yb : ByteArray} {yL dy mcy msy index : Nat} {yr : Option FieldType} {aly : Nat → Prop} (As : List Value) (hC : o_Ct l y (.code y yb yL yr) dy aly (.ref 0 :: As) o_N (o_mem g) mcy msy (y_x v M' P' S' T')) (hH : t_H N g h) (hv : ∀ k : Nat, v = .ref k → k < 192 ∨ 1000000 ≤ k) (hal : ∀ k, aly k → 191 ≤ k ∧ k ≤ 192) (hal2 : ∀ k, aly k → k < 192 → al k) (hls : (∀ k, ¬ aly k) ∨ ((∀ q ∈ ls, ∀ k : Nat, q.2 = .ref k → k ≠ 191) ∧ ∀ v ∈ rest, ∀ k : Nat, v = .ref k → k ≠ 191)) (hd : decode Mt.2.1 pc = .ok (.invokevirtual index, 3)) (hw : Cond.methodLink Mt.1 index y ∈ o_gW) (hyw : o_yw y (.code y yb yL yr)) (hyd : o_yd y As.length = true) (hyL : yL ≤ 21)
    (hcls : y.cls = "LampLeaseOffice") (hdy : dy < d) (hm : mcy ≤ mc) (hs : msy ≤ ms) (hst : st = As.reverse ++ .ref 0 :: rest) (hcat : (rest.map fun v => v.category).sum ≤ 8) (k : ∀ g' h', o_xd g' M' P' S' T' → t_H N g' h' → (∀ k, 192 ≤ k → h' k = h k) → o_V l Mt d al post (pc + 3) ls (v :: rest) N h' (mc - mcy) (ms - msy)) : o_V l Mt d al post pc ls st N h mc ms := by
  have hb9 := hH.2.2
  refine o_callV (ci := 0) As (tx_fr hC hH hv hal) hd hw hyw hyd hyL hdy hm hs (show 0 < N by omega) ((hH.1 0 (by decide)).trans (show o_mem g 0 = .inr (0, _) from rfl)) (by rw [hcls]; rfl) hst hcat (fun k z => hal2 k z.1 z.2) (fun k z => by omega) ?_ (fun v9 n9 h9 q9 => ?_) (fun E n9 h9 q9 => by cases q9.1)
  · rcases hls with q | ⟨q1, q2⟩
    · exact Or.inl fun k z => q k z.1
    · exact Or.inr ⟨fun q hq (k : Nat) hk z => by have := q1 q hq k hk; have := hal k z.1; omega, fun v hv (k : Nat) hk z => by have := q2 v hv k hk; have := hal k z.1; omega⟩
  · obtain ⟨w1, rfl, g', hx, hH', e⟩ := q9
    cases w1
    exact k g' h9 hx hH' e
theorem tx_q {y : MethodName} {yb : ByteArray} {yL dy mcy msy index : Nat} {yr : Option FieldType} {yh : List (Nat × Nat × Nat × Nat)} (As : List Value) (hC : o_Ct l y (.codeWith y yb yL yr yh) dy o_no As o_N (o_mem g) mcy msy (y_x v M' P' S' T')) (hH : t_H N g h) (hv : ∀ k : Nat, v = .ref k → k < 192 ∨ 1000000 ≤ k) (hd : decode Mt.2.1 pc = .ok (.invokestatic index, 3)) (hw : Cond.methodLink Mt.1 index y ∈ o_gW) (hyw : o_ys y (.codeWith y yb yL yr yh)) (hyd : o_yd y As.length = true) (hyL : yL ≤ 21)
    (hdy : dy < d) (hm : mcy ≤ mc) (hs : msy ≤ ms) (hst : st = As.reverse ++ rest) (hcat : (rest.map fun v => v.category).sum ≤ 8) (k : ∀ g' h', o_xd g' M' P' S' T' → t_H N g' h' → (∀ k, 192 ≤ k → h' k = h k) → o_V l Mt d al post (pc + 3) ls (v :: rest) N h' (mc - mcy) (ms - msy)) : o_V l Mt d al post pc ls st N h mc ms :=
  o_callSW As (tx_fr hC hH hv (fun _ z => z.elim)) (fun E n' h' q => by cases q.1) hd hw hyw hyd hyL hdy hm hs hst hcat (fun _ z => z.1.elim) (fun _ z => z.1.elim) (Or.inl fun _ z => z.1) (fun v9 n9 h9 q9 => by obtain ⟨w1, rfl, g', hx, hH', e⟩ := q9; cases w1; exact k g' h9 hx hH' e)
theorem tx_s {y : MethodName} {yb : ByteArray} {yL dy mcy msy index : Nat} {yr : Option FieldType} (As : List Value) (hC : o_Ct l y (.code y yb yL yr) dy o_no As o_N (o_mem g) mcy msy (y_x v M' P' S' T')) (hH : t_H N g h) (hv : ∀ k : Nat, v = .ref k → k < 192 ∨ 1000000 ≤ k) (hd : decode Mt.2.1 pc = .ok (.invokestatic index, 3)) (hw : Cond.methodLink Mt.1 index y ∈ o_gW) (hyw : o_ys y (.code y yb yL yr)) (hyd : o_yd y As.length = true) (hyL : yL ≤ 21)
    (hdy : dy < d) (hm : mcy ≤ mc) (hs : msy ≤ ms) (hst : st = As.reverse ++ rest) (hcat : (rest.map fun v => v.category).sum ≤ 8) (k : ∀ g' h', o_xd g' M' P' S' T' → t_H N g' h' → (∀ k, 192 ≤ k → h' k = h k) → o_V l Mt d al post (pc + 3) ls (v :: rest) N h' (mc - mcy) (ms - msy)) : o_V l Mt d al post pc ls st N h mc ms :=
  o_callS As (tx_fr hC hH hv (fun _ z => z.elim)) hd hw hyw hyd hyL hdy hm hs hst hcat (fun _ z => z.1.elim) (fun _ z => z.1.elim) (Or.inl fun _ z => z.1) (fun v9 n9 h9 q9 => by obtain ⟨w1, rfl, g', hx, hH', e⟩ := q9; cases w1; exact k g' h9 hx hH' e) (fun E n9 h9 q9 => by cases q9.1)
end TY
theorem y_int {z : Int} : ∀ k : Nat, Value.int (o_I z) = .ref k → k < 192 ∨ 1000000 ≤ k := fun _ z => by cases z
theorem t_c60 {N : Nat} {h : Nat → o_C} : t_S N h (2000000 + 60) [] := t_SC (List.mem_of_getElem? (i := 13) (by decide +kernel)) (by decide) (by decide)
theorem t_c61 {N : Nat} {h : Nat → o_C} : t_S N h (2000000 + 61) [32] := t_SC (List.mem_of_getElem? (i := 14) (by decide +kernel)) (by decide) (by decide)
theorem t_c62 {N : Nat} {h : Nat → o_C} : t_S N h (2000000 + 62) [115] := t_SC (List.mem_of_getElem? (i := 15) (by decide +kernel)) (by decide) (by decide)
theorem t_c63 {N : Nat} {h : Nat → o_C} : t_S N h (2000000 + 63) [101] := t_SC (List.mem_of_getElem? (i := 16) (by decide +kernel)) (by decide) (by decide)
theorem t_c64 {N : Nat} {h : Nat → o_C} : t_S N h (2000000 + 64) [114] := t_SC (List.mem_of_getElem? (i := 17) (by decide +kernel)) (by decide) (by decide)
theorem t_c65 {N : Nat} {h : Nat → o_C} : t_S N h (2000000 + 65) [111, 105, 108, 32] := t_SC (List.mem_of_getElem? (i := 18) (by decide +kernel)) (by decide) (by decide)
theorem t_c66 {N : Nat} {h : Nat → o_C} : t_S N h (2000000 + 66) [59, 119, 97, 105, 116, 59, 100, 114, 111, 112, 32] := t_SC (List.mem_of_getElem? (i := 19) (by decide +kernel)) (by decide) (by decide)
theorem t_c67 {N : Nat} {h : Nat → o_C} : t_S N h (2000000 + 67) [119, 97, 105, 116, 32] := t_SC (List.mem_of_getElem? (i := 20) (by decide +kernel)) (by decide) (by decide)
theorem t_c68 {N : Nat} {h : Nat → o_C} : t_S N h (2000000 + 68) [59, 108, 101, 97, 115, 101, 32] := t_SC (List.mem_of_getElem? (i := 21) (by decide +kernel)) (by decide) (by decide)
theorem t_c69 {N : Nat} {h : Nat → o_C} : t_S N h (2000000 + 69) [32, 51, 59, 119, 97, 105, 116, 59, 114, 101, 110, 101, 119, 32] := t_SC (List.mem_of_getElem? (i := 22) (by decide +kernel)) (by decide) (by decide)
theorem t_c70 {N : Nat} {h : Nat → o_C} : t_S N h (2000000 + 70) [32, 50] := t_SC (List.mem_of_getElem? (i := 23) (by decide +kernel)) (by decide) (by decide)
