/-! new cells by their number -/
section JNw
variable {l : Launch} {G : jl_G} {M : jl_M} {u : Nat × Nat} {pc : Nat} {ls : List (Option Value)} {st : List Value} {σ : jl_S} {o : jl_O} {σ' : jl_S}
theorem jl_al {b : Nat} {x c : jl_C} (h : σ[b]? = some x) : (σ ++ [c])[b]? = some x := by rw [List.getElem?_append_left (List.getElem?_eq_some_iff.mp h).1]; exact h
theorem jl_an {b : Nat} {c : jl_C} (h : σ.length = b) : (σ ++ [c])[b]? = some c := by subst h; simp
theorem jl_ls {b n : Nat} {c : jl_C} (h : σ.length = n) : (σ.set b c).length = n := by rw [List.length_set]; exact h
theorem jl_la {n : Nat} {c : jl_C} (h : σ.length = n) : (σ ++ [c]).length = n + 1 := by rw [List.length_append, h]; rfl
theorem jr_newIL {N b : Nat} {n : Int32} (hd : decode M.2.1 pc = .ok (.newarray .int, 2)) (hL : σ.length = b) (hn : n = nI N) (hN : N ≤ 100000) (h1 : u.1 + 1 ≤ M.2.2.2.2.1.cells) (h2 : u.2 + N ≤ M.2.2.2.2.1.slots) (k : jl_W l G M (u.1 + 1, u.2 + N) (pc + 2) ls (.ref b :: st) (σ ++ [.inl (0, N, .inl fun _ => 0)]) o σ') : jl_W l G M u pc ls (.int n :: st) σ o σ' := by
  subst hL; exact jr_newI hd hn hN h1 h2 k
theorem jr_newZL {N b : Nat} {n : Int32} (hd : decode M.2.1 pc = .ok (.newarray .boolean, 2)) (hL : σ.length = b) (hn : n = nI N) (hN : N ≤ 100000) (h1 : u.1 + 1 ≤ M.2.2.2.2.1.cells) (h2 : u.2 + N ≤ M.2.2.2.2.1.slots) (k : jl_W l G M (u.1 + 1, u.2 + N) (pc + 2) ls (.ref b :: st) (σ ++ [.inl (1, N, .inl fun _ => 0)]) o σ') : jl_W l G M u pc ls (.int n :: st) σ o σ' := by
  subst hL; exact jr_newZ hd hn hN h1 h2 k
theorem jr_newJL {N b : Nat} {n : Int32} (hd : decode M.2.1 pc = .ok (.newarray .long, 2)) (hL : σ.length = b) (hn : n = nI N) (hN : N ≤ 100000) (h1 : u.1 + 1 ≤ M.2.2.2.2.1.cells) (h2 : u.2 + N ≤ M.2.2.2.2.1.slots) (k : jl_W l G M (u.1 + 1, u.2 + N) (pc + 2) ls (.ref b :: st) (σ ++ [.inl (2, N, .inr (.inl fun _ => 0))]) o σ') : jl_W l G M u pc ls (.int n :: st) σ o σ' := by
  subst hL; exact jr_newJ hd hn hN h1 h2 k
theorem jr_newAL {N b idx : Nat} {n : Int32} (hd : decode M.2.1 pc = .ok (.anewarray idx, 3)) (hc : Cond.classLink M.1.cls idx "JavaChain$Method" ∈ jl_gw) (hL : σ.length = b) (hn : n = nI N) (hN : N ≤ 100000) (h1 : u.1 + 1 ≤ M.2.2.2.2.1.cells) (h2 : u.2 + N ≤ M.2.2.2.2.1.slots) (k : jl_W l G M (u.1 + 1, u.2 + N) (pc + 3) ls (.ref b :: st) (σ ++ [.inl (3, N, .inr (.inr (.inr (.inr fun _ => none))))]) o σ') : jl_W l G M u pc ls (.int n :: st) σ o σ' := by
  subst hL; exact jr_newA hd hc hn hN h1 h2 k
theorem jr_newOL {idx ci n b : Nat} {fs : List Value} (hd : decode M.2.1 pc = .ok (.new idx, 3)) (hn : jl_nw M idx ci n = true) (hf : jl_df ci n = fs) (hL : σ.length = b) (h1 : u.1 + 1 ≤ M.2.2.2.2.1.cells) (h2 : u.2 + n ≤ M.2.2.2.2.1.slots) (k : jl_W l G M (u.1 + 1, u.2 + n) (pc + 3) ls (.ref b :: st) (σ ++ [.inr (ci, fs)]) o σ') : jl_W l G M u pc ls st σ o σ' := by
  subst hL; subst hf; exact jr_new hd hn h1 h2 k
end JNw
