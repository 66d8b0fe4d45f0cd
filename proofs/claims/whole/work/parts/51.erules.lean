/-! walks and contracts whose end is told by a property; the rows jr_* once more for them (wip/gen/mk51.py) -/
def jl_E (l : Launch) (G : jl_G) (M : jl_M) (u : Nat × Nat) (pc : Nat) (ls : List (Option Value)) (st : List Value) (σ : jl_S) (P : jl_O → jl_S → Prop) : Prop := ∃ o σ', P o σ' ∧ jl_W l G M u pc ls st σ o σ'
def jl_mE (l : Launch) (G : jl_G) (M : jl_M) (as : List Value) (σ : jl_S) (P : jl_O → jl_S → Prop) : Prop := ∃ o σ', P o σ' ∧ jl_m l G M as σ o σ'
section JEr
variable {l : Launch} {G : jl_G} {M : jl_M} {u : Nat × Nat} {pc : Nat} {ls : List (Option Value)} {st : List Value} {σ : jl_S} {P : jl_O → jl_S → Prop}
theorem jl_E.mono {Q : jl_O → jl_S → Prop} (h : jl_E l G M u pc ls st σ Q) (hq : ∀ o σ', Q o σ' → P o σ') : jl_E l G M u pc ls st σ P := by
  obtain ⟨o, σ', hp, k⟩ := h
  exact ⟨o, σ', hq o σ' hp, k⟩
theorem jl_mE.mono {as : List Value} {Q : jl_O → jl_S → Prop} (h : jl_mE l G M as σ Q) (hq : ∀ o σ', Q o σ' → P o σ') : jl_mE l G M as σ P := by
  obtain ⟨o, σ', hp, k⟩ := h
  exact ⟨o, σ', hq o σ' hp, k⟩
theorem jl_E.of {o : jl_O} {σ' : jl_S} (hp : P o σ') (h : jl_W l G M u pc ls st σ o σ') : jl_E l G M u pc ls st σ P := ⟨o, σ', hp, h⟩
theorem jl_ofE {as : List Value} (hh : M.2.2.2.2.2 = .code M.1 M.2.1 M.2.2.1 M.2.2.2.1) (hpl : plainName M.1.cls = true) (hl : l.stackTraces = false) (hc : ∀ v ∈ as, v.category = 1) (hn : as.length ≤ M.2.2.1) (k : jl_E l G M (0, 0) 0 (as.map some ++ List.replicate (M.2.2.1 - as.length) none) [] σ P) : jl_mE l G M as σ P := by
  obtain ⟨o, σ', hp, k⟩ := k
  exact ⟨o, σ', hp, jl_of hh hpl hl hc hn k⟩
theorem er_iret {v : Int32} (hd : decode M.2.1 pc = .ok (.ireturn, 1)) (hr : M.2.2.2.1 = some .int) (hP : P (.inl (some (.int v))) σ) (h1 : u.1 ≤ M.2.2.2.2.1.cells) (h2 : u.2 ≤ M.2.2.2.2.1.slots) : jl_E l G M u pc ls [.int v] σ P := ⟨_, _, hP, jr_iretE hd hr rfl rfl h1 h2⟩
theorem er_zret {v : Int32} (hd : decode M.2.1 pc = .ok (.ireturn, 1)) (hr : M.2.2.2.1 = some .boolean) (hv : v = 0 ∨ v = 1) (hP : P (.inl (some (.int v))) σ) (h1 : u.1 ≤ M.2.2.2.2.1.cells) (h2 : u.2 ≤ M.2.2.2.2.1.slots) : jl_E l G M u pc ls [.int v] σ P := ⟨_, _, hP, jr_zretE hd hr hv rfl rfl h1 h2⟩
theorem er_vret (hd : decode M.2.1 pc = .ok (.return_, 1)) (hr : M.2.2.2.1 = none) (hP : P (.inl none) σ) (h1 : u.1 ≤ M.2.2.2.2.1.cells) (h2 : u.2 ≤ M.2.2.2.2.1.slots) : jl_E l G M u pc ls [] σ P := ⟨_, _, hP, jr_vretE hd hr rfl rfl h1 h2⟩
theorem er_aret {r : Option Nat} {C : String} (hd : decode M.2.1 pc = .ok (.areturn, 1)) (hr : M.2.2.2.1 = some (.object C)) (hP : P (.inl (some (va_rf r))) σ) (h1 : u.1 ≤ M.2.2.2.2.1.cells) (h2 : u.2 ≤ M.2.2.2.2.1.slots) : jl_E l G M u pc ls [va_rf r] σ P := ⟨_, _, hP, jr_aretE hd hr rfl rfl h1 h2⟩
theorem er_weak {ls' : List (Option Value)} (hs : ∀ (i : Nat) (v : Value), ls'[i]? = some (some v) → ls[i]? = some (some v)) (k : jl_E l G M u pc ls' st σ P) : jl_E l G M u pc ls st σ P := by
  obtain ⟨o, σ', hp, k⟩ := k
  exact ⟨o, σ', hp, jr_weak hs k⟩
theorem er_eq {pc' : Nat} (h : pc = pc') (k : jl_E l G M u pc' ls st σ P) : jl_E l G M u pc ls st σ P := by
  obtain ⟨o, σ', hp, k⟩ := k
  exact ⟨o, σ', hp, jr_eq h k⟩
theorem er_iconst {n : Int} (v : Int32) (hd : decode M.2.1 pc = .ok (.iconst n, 1)) (hv : Int32.ofInt n = v) (k : jl_E l G M u (pc + 1) ls (.int v :: st) σ P) : jl_E l G M u pc ls st σ P := by
  obtain ⟨o, σ', hp, k⟩ := k
  exact ⟨o, σ', hp, jr_iconst v hd hv k⟩
theorem er_bipush {n : Int} (v : Int32) (hd : decode M.2.1 pc = .ok (.bipush n, 2)) (hv : (Int8.ofInt n).toInt32 = v) (k : jl_E l G M u (pc + 2) ls (.int v :: st) σ P) : jl_E l G M u pc ls st σ P := by
  obtain ⟨o, σ', hp, k⟩ := k
  exact ⟨o, σ', hp, jr_bipush v hd hv k⟩
theorem er_sipush {n : Int} (v : Int32) (hd : decode M.2.1 pc = .ok (.sipush n, 3)) (hv : (Int16.ofInt n).toInt32 = v) (k : jl_E l G M u (pc + 3) ls (.int v :: st) σ P) : jl_E l G M u pc ls st σ P := by
  obtain ⟨o, σ', hp, k⟩ := k
  exact ⟨o, σ', hp, jr_sipush v hd hv k⟩
theorem er_ldc {idx : Nat} (v : Int32) (hd : decode M.2.1 pc = .ok (.ldc idx, 2)) (hc : Cond.constant M.1.cls idx v ∈ jl_gw) (k : jl_E l G M u (pc + 2) ls (.int v :: st) σ P) : jl_E l G M u pc ls st σ P := by
  obtain ⟨o, σ', hp, k⟩ := k
  exact ⟨o, σ', hp, jr_ldc v hd hc k⟩
theorem er_null (hd : decode M.2.1 pc = .ok (.aconst_null, 1)) (k : jl_E l G M u (pc + 1) ls (.null :: st) σ P) : jl_E l G M u pc ls st σ P := by
  obtain ⟨o, σ', hp, k⟩ := k
  exact ⟨o, σ', hp, jr_null hd k⟩
theorem er_iload_n {k : Fin 4} {x : Int32} (hd : decode M.2.1 pc = .ok (.iload_n k, 1)) (hl : ls[(k : Nat)]? = some (some (.int x))) (kk : jl_E l G M u (pc + 1) ls (.int x :: st) σ P) : jl_E l G M u pc ls st σ P := by
  obtain ⟨o, σ', hp, kk⟩ := kk
  exact ⟨o, σ', hp, jr_iload_n hd hl kk⟩
theorem er_iload {i : Nat} {x : Int32} (hd : decode M.2.1 pc = .ok (.iload i, 2)) (hl : ls[i]? = some (some (.int x))) (kk : jl_E l G M u (pc + 2) ls (.int x :: st) σ P) : jl_E l G M u pc ls st σ P := by
  obtain ⟨o, σ', hp, kk⟩ := kk
  exact ⟨o, σ', hp, jr_iload hd hl kk⟩
theorem er_aload_n {k : Fin 4} {x : Nat} (hd : decode M.2.1 pc = .ok (.aload_n k, 1)) (hl : ls[(k : Nat)]? = some (some (.ref x))) (kk : jl_E l G M u (pc + 1) ls (.ref x :: st) σ P) : jl_E l G M u pc ls st σ P := by
  obtain ⟨o, σ', hp, kk⟩ := kk
  exact ⟨o, σ', hp, jr_aload_n hd hl kk⟩
theorem er_aload {i : Nat} {x : Nat} (hd : decode M.2.1 pc = .ok (.aload i, 2)) (hl : ls[i]? = some (some (.ref x))) (kk : jl_E l G M u (pc + 2) ls (.ref x :: st) σ P) : jl_E l G M u pc ls st σ P := by
  obtain ⟨o, σ', hp, kk⟩ := kk
  exact ⟨o, σ', hp, jr_aload hd hl kk⟩
theorem er_aload_nN {k : Fin 4} (hd : decode M.2.1 pc = .ok (.aload_n k, 1)) (hl : ls[(k : Nat)]? = some (some (.null))) (kk : jl_E l G M u (pc + 1) ls (.null :: st) σ P) : jl_E l G M u pc ls st σ P := by
  obtain ⟨o, σ', hp, kk⟩ := kk
  exact ⟨o, σ', hp, jr_aload_nN hd hl kk⟩
theorem er_aloadN {i : Nat} (hd : decode M.2.1 pc = .ok (.aload i, 2)) (hl : ls[i]? = some (some (.null))) (kk : jl_E l G M u (pc + 2) ls (.null :: st) σ P) : jl_E l G M u pc ls st σ P := by
  obtain ⟨o, σ', hp, kk⟩ := kk
  exact ⟨o, σ', hp, jr_aloadN hd hl kk⟩
theorem er_aload_nR {k : Fin 4} {x : Nat} (hd : decode M.2.1 pc = .ok (.aload_n k, 1)) (hl : ls[(k : Nat)]? = some (some (.retAddr x))) (kk : jl_E l G M u (pc + 1) ls (.retAddr x :: st) σ P) : jl_E l G M u pc ls st σ P := by
  obtain ⟨o, σ', hp, kk⟩ := kk
  exact ⟨o, σ', hp, jr_aload_nR hd hl kk⟩
theorem er_aloadR {i : Nat} {x : Nat} (hd : decode M.2.1 pc = .ok (.aload i, 2)) (hl : ls[i]? = some (some (.retAddr x))) (kk : jl_E l G M u (pc + 2) ls (.retAddr x :: st) σ P) : jl_E l G M u pc ls st σ P := by
  obtain ⟨o, σ', hp, kk⟩ := kk
  exact ⟨o, σ', hp, jr_aloadR hd hl kk⟩
theorem er_istore_n {k : Fin 4} {x : Int32} (hd : decode M.2.1 pc = .ok (.istore_n k, 1)) (hn : (k : Nat) < M.2.2.1) (kk : jl_E l G M u (pc + 1) (ls.set (k : Nat) (some (.int x))) st σ P) : jl_E l G M u pc ls (.int x :: st) σ P := by
  obtain ⟨o, σ', hp, kk⟩ := kk
  exact ⟨o, σ', hp, jr_istore_n hd hn kk⟩
theorem er_istore {i : Nat} {x : Int32} (hd : decode M.2.1 pc = .ok (.istore i, 2)) (hn : i < M.2.2.1) (kk : jl_E l G M u (pc + 2) (ls.set i (some (.int x))) st σ P) : jl_E l G M u pc ls (.int x :: st) σ P := by
  obtain ⟨o, σ', hp, kk⟩ := kk
  exact ⟨o, σ', hp, jr_istore hd hn kk⟩
theorem er_astore_n {k : Fin 4} {x : Nat} (hd : decode M.2.1 pc = .ok (.astore_n k, 1)) (hn : (k : Nat) < M.2.2.1) (kk : jl_E l G M u (pc + 1) (ls.set (k : Nat) (some (.ref x))) st σ P) : jl_E l G M u pc ls (.ref x :: st) σ P := by
  obtain ⟨o, σ', hp, kk⟩ := kk
  exact ⟨o, σ', hp, jr_astore_n hd hn kk⟩
theorem er_astore {i : Nat} {x : Nat} (hd : decode M.2.1 pc = .ok (.astore i, 2)) (hn : i < M.2.2.1) (kk : jl_E l G M u (pc + 2) (ls.set i (some (.ref x))) st σ P) : jl_E l G M u pc ls (.ref x :: st) σ P := by
  obtain ⟨o, σ', hp, kk⟩ := kk
  exact ⟨o, σ', hp, jr_astore hd hn kk⟩
theorem er_astore_nN {k : Fin 4} (hd : decode M.2.1 pc = .ok (.astore_n k, 1)) (hn : (k : Nat) < M.2.2.1) (kk : jl_E l G M u (pc + 1) (ls.set (k : Nat) (some (.null))) st σ P) : jl_E l G M u pc ls (.null :: st) σ P := by
  obtain ⟨o, σ', hp, kk⟩ := kk
  exact ⟨o, σ', hp, jr_astore_nN hd hn kk⟩
theorem er_astoreN {i : Nat} (hd : decode M.2.1 pc = .ok (.astore i, 2)) (hn : i < M.2.2.1) (kk : jl_E l G M u (pc + 2) (ls.set i (some (.null))) st σ P) : jl_E l G M u pc ls (.null :: st) σ P := by
  obtain ⟨o, σ', hp, kk⟩ := kk
  exact ⟨o, σ', hp, jr_astoreN hd hn kk⟩
theorem er_astore_nR {k : Fin 4} {x : Nat} (hd : decode M.2.1 pc = .ok (.astore_n k, 1)) (hn : (k : Nat) < M.2.2.1) (kk : jl_E l G M u (pc + 1) (ls.set (k : Nat) (some (.retAddr x))) st σ P) : jl_E l G M u pc ls (.retAddr x :: st) σ P := by
  obtain ⟨o, σ', hp, kk⟩ := kk
  exact ⟨o, σ', hp, jr_astore_nR hd hn kk⟩
theorem er_astoreR {i : Nat} {x : Nat} (hd : decode M.2.1 pc = .ok (.astore i, 2)) (hn : i < M.2.2.1) (kk : jl_E l G M u (pc + 2) (ls.set i (some (.retAddr x))) st σ P) : jl_E l G M u pc ls (.retAddr x :: st) σ P := by
  obtain ⟨o, σ', hp, kk⟩ := kk
  exact ⟨o, σ', hp, jr_astoreR hd hn kk⟩
theorem er_aload_nO {k : Fin 4} {r : Option Nat} (hd : decode M.2.1 pc = .ok (.aload_n k, 1)) (hl : ls[(k : Nat)]? = some (some (va_rf r))) (kk : jl_E l G M u (pc + 1) ls (va_rf r :: st) σ P) : jl_E l G M u pc ls st σ P := by
  obtain ⟨o, σ', hp, kk⟩ := kk
  exact ⟨o, σ', hp, jr_aload_nO hd hl kk⟩
theorem er_aloadO {i : Nat} {r : Option Nat} (hd : decode M.2.1 pc = .ok (.aload i, 2)) (hl : ls[i]? = some (some (va_rf r))) (kk : jl_E l G M u (pc + 2) ls (va_rf r :: st) σ P) : jl_E l G M u pc ls st σ P := by
  obtain ⟨o, σ', hp, kk⟩ := kk
  exact ⟨o, σ', hp, jr_aloadO hd hl kk⟩
theorem er_astore_nO {k : Fin 4} {r : Option Nat} (hd : decode M.2.1 pc = .ok (.astore_n k, 1)) (hn : (k : Nat) < M.2.2.1) (kk : jl_E l G M u (pc + 1) (ls.set (k : Nat) (some (va_rf r))) st σ P) : jl_E l G M u pc ls (va_rf r :: st) σ P := by
  obtain ⟨o, σ', hp, kk⟩ := kk
  exact ⟨o, σ', hp, jr_astore_nO hd hn kk⟩
theorem er_astoreO {i : Nat} {r : Option Nat} (hd : decode M.2.1 pc = .ok (.astore i, 2)) (hn : i < M.2.2.1) (kk : jl_E l G M u (pc + 2) (ls.set i (some (va_rf r))) st σ P) : jl_E l G M u pc ls (va_rf r :: st) σ P := by
  obtain ⟨o, σ', hp, kk⟩ := kk
  exact ⟨o, σ', hp, jr_astoreO hd hn kk⟩
theorem er_iinc {i : Nat} {n : Int} {x : Int32} (v : Int32) (hd : decode M.2.1 pc = .ok (.iinc i n, 3)) (hn : i < M.2.2.1) (hl : ls[i]? = some (some (.int x))) (hv : x + Int32.ofInt n = v) (kk : jl_E l G M u (pc + 3) (ls.set i (some (.int v))) st σ P) : jl_E l G M u pc ls st σ P := by
  obtain ⟨o, σ', hp, kk⟩ := kk
  exact ⟨o, σ', hp, jr_iinc v hd hn hl hv kk⟩
theorem er_iadd {x y : Int32} (hd : decode M.2.1 pc = .ok (.iadd, 1)) (k : jl_E l G M u (pc + 1) ls (.int (x + y) :: st) σ P) : jl_E l G M u pc ls (.int y :: .int x :: st) σ P := by
  obtain ⟨o, σ', hp, k⟩ := k
  exact ⟨o, σ', hp, jr_iadd hd k⟩
theorem er_isub {x y : Int32} (hd : decode M.2.1 pc = .ok (.isub, 1)) (k : jl_E l G M u (pc + 1) ls (.int (x - y) :: st) σ P) : jl_E l G M u pc ls (.int y :: .int x :: st) σ P := by
  obtain ⟨o, σ', hp, k⟩ := k
  exact ⟨o, σ', hp, jr_isub hd k⟩
theorem er_imul {x y : Int32} (hd : decode M.2.1 pc = .ok (.imul, 1)) (k : jl_E l G M u (pc + 1) ls (.int (x * y) :: st) σ P) : jl_E l G M u pc ls (.int y :: .int x :: st) σ P := by
  obtain ⟨o, σ', hp, k⟩ := k
  exact ⟨o, σ', hp, jr_imul hd k⟩
theorem er_iand {x y : Int32} (hd : decode M.2.1 pc = .ok (.iand, 1)) (k : jl_E l G M u (pc + 1) ls (.int (x &&& y) :: st) σ P) : jl_E l G M u pc ls (.int y :: .int x :: st) σ P := by
  obtain ⟨o, σ', hp, k⟩ := k
  exact ⟨o, σ', hp, jr_iand hd k⟩
theorem er_ior {x y : Int32} (hd : decode M.2.1 pc = .ok (.ior, 1)) (k : jl_E l G M u (pc + 1) ls (.int (x ||| y) :: st) σ P) : jl_E l G M u pc ls (.int y :: .int x :: st) σ P := by
  obtain ⟨o, σ', hp, k⟩ := k
  exact ⟨o, σ', hp, jr_ior hd k⟩
theorem er_idiv {x y : Int32} (hd : decode M.2.1 pc = .ok (.idiv, 1)) (hne : ¬ y = 0) (k : jl_E l G M u (pc + 1) ls (.int (x / y) :: st) σ P) : jl_E l G M u pc ls (.int y :: .int x :: st) σ P := by
  obtain ⟨o, σ', hp, k⟩ := k
  exact ⟨o, σ', hp, jr_idiv hd hne k⟩
theorem er_irem {x y : Int32} (hd : decode M.2.1 pc = .ok (.irem, 1)) (hne : ¬ y = 0) (k : jl_E l G M u (pc + 1) ls (.int (x - x / y * y) :: st) σ P) : jl_E l G M u pc ls (.int y :: .int x :: st) σ P := by
  obtain ⟨o, σ', hp, k⟩ := k
  exact ⟨o, σ', hp, jr_irem hd hne k⟩
theorem er_ineg {x : Int32} (hd : decode M.2.1 pc = .ok (.ineg, 1)) (k : jl_E l G M u (pc + 1) ls (.int (-x) :: st) σ P) : jl_E l G M u pc ls (.int x :: st) σ P := by
  obtain ⟨o, σ', hp, k⟩ := k
  exact ⟨o, σ', hp, jr_ineg hd k⟩
theorem er_i2l {x : Int32} (hd : decode M.2.1 pc = .ok (.i2l, 1)) (k : jl_E l G M u (pc + 1) ls (.long x.toInt64 :: st) σ P) : jl_E l G M u pc ls (.int x :: st) σ P := by
  obtain ⟨o, σ', hp, k⟩ := k
  exact ⟨o, σ', hp, jr_i2l hd k⟩
theorem er_lcmp {x y : Int64} (hd : decode M.2.1 pc = .ok (.lcmp, 1)) (k : jl_E l G M u (pc + 1) ls (.int (lg_cmp x y) :: st) σ P) : jl_E l G M u pc ls (.long y :: .long x :: st) σ P := by
  obtain ⟨o, σ', hp, k⟩ := k
  exact ⟨o, σ', hp, jr_lcmp hd k⟩
theorem er_dup {v : Value} (hd : decode M.2.1 pc = .ok (.dup, 1)) (hc : v.category = 1) (k : jl_E l G M u (pc + 1) ls (v :: v :: st) σ P) : jl_E l G M u pc ls (v :: st) σ P := by
  obtain ⟨o, σ', hp, k⟩ := k
  exact ⟨o, σ', hp, jr_dup hd hc k⟩
theorem er_pop {v : Value} (hd : decode M.2.1 pc = .ok (.pop, 1)) (hc : v.category = 1) (k : jl_E l G M u (pc + 1) ls st σ P) : jl_E l G M u pc ls (v :: st) σ P := by
  obtain ⟨o, σ', hp, k⟩ := k
  exact ⟨o, σ', hp, jr_pop hd hc k⟩
theorem er_dup2 {v w : Value} (hd : decode M.2.1 pc = .ok (.dup2, 1)) (hv : v.category = 1) (hw : w.category = 1) (k : jl_E l G M u (pc + 1) ls (v :: w :: v :: w :: st) σ P) : jl_E l G M u pc ls (v :: w :: st) σ P := by
  obtain ⟨o, σ', hp, k⟩ := k
  exact ⟨o, σ', hp, jr_dup2 hd hv hw k⟩
theorem er_if_eq {x : Int32} {off : Int} (tgt : Nat) (hd : decode M.2.1 pc = .ok (.ifCond .eq off, 3)) (ht : (pc : Int) + off = (tgt : Int)) (kt : x = 0 → jl_E l G M u tgt ls st σ P) (kf : ¬ x = 0 → jl_E l G M u (pc + 3) ls st σ P) : jl_E l G M u pc ls (.int x :: st) σ P := by
  by_cases q : x = 0
  · obtain ⟨o, σ', hp, w⟩ := kt q
    exact ⟨o, σ', hp, jr_if_eq tgt hd ht (fun _ => w) (fun z => absurd q z)⟩
  · obtain ⟨o, σ', hp, w⟩ := kf q
    exact ⟨o, σ', hp, jr_if_eq tgt hd ht (fun z => absurd z q) (fun _ => w)⟩
theorem er_icmp_eq {x y : Int32} {off : Int} (tgt : Nat) (hd : decode M.2.1 pc = .ok (.if_icmp .eq off, 3)) (ht : (pc : Int) + off = (tgt : Int)) (kt : x = y → jl_E l G M u tgt ls st σ P) (kf : ¬ x = y → jl_E l G M u (pc + 3) ls st σ P) : jl_E l G M u pc ls (.int y :: .int x :: st) σ P := by
  by_cases q : x = y
  · obtain ⟨o, σ', hp, w⟩ := kt q
    exact ⟨o, σ', hp, jr_icmp_eq tgt hd ht (fun _ => w) (fun z => absurd q z)⟩
  · obtain ⟨o, σ', hp, w⟩ := kf q
    exact ⟨o, σ', hp, jr_icmp_eq tgt hd ht (fun z => absurd z q) (fun _ => w)⟩
theorem er_if_ne {x : Int32} {off : Int} (tgt : Nat) (hd : decode M.2.1 pc = .ok (.ifCond .ne off, 3)) (ht : (pc : Int) + off = (tgt : Int)) (kt : ¬ x = 0 → jl_E l G M u tgt ls st σ P) (kf : x = 0 → jl_E l G M u (pc + 3) ls st σ P) : jl_E l G M u pc ls (.int x :: st) σ P := by
  by_cases q : ¬ x = 0
  · obtain ⟨o, σ', hp, w⟩ := kt q
    exact ⟨o, σ', hp, jr_if_ne tgt hd ht (fun _ => w) (fun z => absurd z q)⟩
  · obtain ⟨o, σ', hp, w⟩ := kf (Classical.not_not.mp q)
    exact ⟨o, σ', hp, jr_if_ne tgt hd ht (fun z => absurd z q) (fun _ => w)⟩
theorem er_icmp_ne {x y : Int32} {off : Int} (tgt : Nat) (hd : decode M.2.1 pc = .ok (.if_icmp .ne off, 3)) (ht : (pc : Int) + off = (tgt : Int)) (kt : ¬ x = y → jl_E l G M u tgt ls st σ P) (kf : x = y → jl_E l G M u (pc + 3) ls st σ P) : jl_E l G M u pc ls (.int y :: .int x :: st) σ P := by
  by_cases q : ¬ x = y
  · obtain ⟨o, σ', hp, w⟩ := kt q
    exact ⟨o, σ', hp, jr_icmp_ne tgt hd ht (fun _ => w) (fun z => absurd z q)⟩
  · obtain ⟨o, σ', hp, w⟩ := kf (Classical.not_not.mp q)
    exact ⟨o, σ', hp, jr_icmp_ne tgt hd ht (fun z => absurd z q) (fun _ => w)⟩
theorem er_if_lt {x : Int32} {off : Int} (tgt : Nat) (hd : decode M.2.1 pc = .ok (.ifCond .lt off, 3)) (ht : (pc : Int) + off = (tgt : Int)) (kt : x < 0 → jl_E l G M u tgt ls st σ P) (kf : ¬ x < 0 → jl_E l G M u (pc + 3) ls st σ P) : jl_E l G M u pc ls (.int x :: st) σ P := by
  by_cases q : x < 0
  · obtain ⟨o, σ', hp, w⟩ := kt q
    exact ⟨o, σ', hp, jr_if_lt tgt hd ht (fun _ => w) (fun z => absurd q z)⟩
  · obtain ⟨o, σ', hp, w⟩ := kf q
    exact ⟨o, σ', hp, jr_if_lt tgt hd ht (fun z => absurd z q) (fun _ => w)⟩
theorem er_icmp_lt {x y : Int32} {off : Int} (tgt : Nat) (hd : decode M.2.1 pc = .ok (.if_icmp .lt off, 3)) (ht : (pc : Int) + off = (tgt : Int)) (kt : x < y → jl_E l G M u tgt ls st σ P) (kf : ¬ x < y → jl_E l G M u (pc + 3) ls st σ P) : jl_E l G M u pc ls (.int y :: .int x :: st) σ P := by
  by_cases q : x < y
  · obtain ⟨o, σ', hp, w⟩ := kt q
    exact ⟨o, σ', hp, jr_icmp_lt tgt hd ht (fun _ => w) (fun z => absurd q z)⟩
  · obtain ⟨o, σ', hp, w⟩ := kf q
    exact ⟨o, σ', hp, jr_icmp_lt tgt hd ht (fun z => absurd z q) (fun _ => w)⟩
theorem er_if_ge {x : Int32} {off : Int} (tgt : Nat) (hd : decode M.2.1 pc = .ok (.ifCond .ge off, 3)) (ht : (pc : Int) + off = (tgt : Int)) (kt : 0 ≤ x → jl_E l G M u tgt ls st σ P) (kf : ¬ 0 ≤ x → jl_E l G M u (pc + 3) ls st σ P) : jl_E l G M u pc ls (.int x :: st) σ P := by
  by_cases q : 0 ≤ x
  · obtain ⟨o, σ', hp, w⟩ := kt q
    exact ⟨o, σ', hp, jr_if_ge tgt hd ht (fun _ => w) (fun z => absurd q z)⟩
  · obtain ⟨o, σ', hp, w⟩ := kf q
    exact ⟨o, σ', hp, jr_if_ge tgt hd ht (fun z => absurd z q) (fun _ => w)⟩
theorem er_icmp_ge {x y : Int32} {off : Int} (tgt : Nat) (hd : decode M.2.1 pc = .ok (.if_icmp .ge off, 3)) (ht : (pc : Int) + off = (tgt : Int)) (kt : y ≤ x → jl_E l G M u tgt ls st σ P) (kf : ¬ y ≤ x → jl_E l G M u (pc + 3) ls st σ P) : jl_E l G M u pc ls (.int y :: .int x :: st) σ P := by
  by_cases q : y ≤ x
  · obtain ⟨o, σ', hp, w⟩ := kt q
    exact ⟨o, σ', hp, jr_icmp_ge tgt hd ht (fun _ => w) (fun z => absurd q z)⟩
  · obtain ⟨o, σ', hp, w⟩ := kf q
    exact ⟨o, σ', hp, jr_icmp_ge tgt hd ht (fun z => absurd z q) (fun _ => w)⟩
theorem er_if_gt {x : Int32} {off : Int} (tgt : Nat) (hd : decode M.2.1 pc = .ok (.ifCond .gt off, 3)) (ht : (pc : Int) + off = (tgt : Int)) (kt : 0 < x → jl_E l G M u tgt ls st σ P) (kf : ¬ 0 < x → jl_E l G M u (pc + 3) ls st σ P) : jl_E l G M u pc ls (.int x :: st) σ P := by
  by_cases q : 0 < x
  · obtain ⟨o, σ', hp, w⟩ := kt q
    exact ⟨o, σ', hp, jr_if_gt tgt hd ht (fun _ => w) (fun z => absurd q z)⟩
  · obtain ⟨o, σ', hp, w⟩ := kf q
    exact ⟨o, σ', hp, jr_if_gt tgt hd ht (fun z => absurd z q) (fun _ => w)⟩
theorem er_icmp_gt {x y : Int32} {off : Int} (tgt : Nat) (hd : decode M.2.1 pc = .ok (.if_icmp .gt off, 3)) (ht : (pc : Int) + off = (tgt : Int)) (kt : y < x → jl_E l G M u tgt ls st σ P) (kf : ¬ y < x → jl_E l G M u (pc + 3) ls st σ P) : jl_E l G M u pc ls (.int y :: .int x :: st) σ P := by
  by_cases q : y < x
  · obtain ⟨o, σ', hp, w⟩ := kt q
    exact ⟨o, σ', hp, jr_icmp_gt tgt hd ht (fun _ => w) (fun z => absurd q z)⟩
  · obtain ⟨o, σ', hp, w⟩ := kf q
    exact ⟨o, σ', hp, jr_icmp_gt tgt hd ht (fun z => absurd z q) (fun _ => w)⟩
theorem er_if_le {x : Int32} {off : Int} (tgt : Nat) (hd : decode M.2.1 pc = .ok (.ifCond .le off, 3)) (ht : (pc : Int) + off = (tgt : Int)) (kt : x ≤ 0 → jl_E l G M u tgt ls st σ P) (kf : ¬ x ≤ 0 → jl_E l G M u (pc + 3) ls st σ P) : jl_E l G M u pc ls (.int x :: st) σ P := by
  by_cases q : x ≤ 0
  · obtain ⟨o, σ', hp, w⟩ := kt q
    exact ⟨o, σ', hp, jr_if_le tgt hd ht (fun _ => w) (fun z => absurd q z)⟩
  · obtain ⟨o, σ', hp, w⟩ := kf q
    exact ⟨o, σ', hp, jr_if_le tgt hd ht (fun z => absurd z q) (fun _ => w)⟩
theorem er_icmp_le {x y : Int32} {off : Int} (tgt : Nat) (hd : decode M.2.1 pc = .ok (.if_icmp .le off, 3)) (ht : (pc : Int) + off = (tgt : Int)) (kt : x ≤ y → jl_E l G M u tgt ls st σ P) (kf : ¬ x ≤ y → jl_E l G M u (pc + 3) ls st σ P) : jl_E l G M u pc ls (.int y :: .int x :: st) σ P := by
  by_cases q : x ≤ y
  · obtain ⟨o, σ', hp, w⟩ := kt q
    exact ⟨o, σ', hp, jr_icmp_le tgt hd ht (fun _ => w) (fun z => absurd q z)⟩
  · obtain ⟨o, σ', hp, w⟩ := kf q
    exact ⟨o, σ', hp, jr_icmp_le tgt hd ht (fun z => absurd z q) (fun _ => w)⟩
theorem er_goto {off : Int} (tgt : Nat) (hd : decode M.2.1 pc = .ok (.goto off, 3)) (ht : (pc : Int) + off = (tgt : Int)) (k : jl_E l G M u tgt ls st σ P) : jl_E l G M u pc ls st σ P := by
  obtain ⟨o, σ', hp, k⟩ := k
  exact ⟨o, σ', hp, jr_goto tgt hd ht k⟩
theorem er_ifnull {x : Nat} {off : Int} (hd : decode M.2.1 pc = .ok (.ifnull off, 3)) (k : jl_E l G M u (pc + 3) ls st σ P) : jl_E l G M u pc ls (.ref x :: st) σ P := by
  obtain ⟨o, σ', hp, k⟩ := k
  exact ⟨o, σ', hp, jr_ifnull hd k⟩
theorem er_ifnullN {off : Int} (tgt : Nat) (hd : decode M.2.1 pc = .ok (.ifnull off, 3)) (ht : (pc : Int) + off = (tgt : Int)) (k : jl_E l G M u tgt ls st σ P) : jl_E l G M u pc ls (.null :: st) σ P := by
  obtain ⟨o, σ', hp, k⟩ := k
  exact ⟨o, σ', hp, jr_ifnullN tgt hd ht k⟩
theorem er_ifnonnull {x : Nat} {off : Int} (tgt : Nat) (hd : decode M.2.1 pc = .ok (.ifnonnull off, 3)) (ht : (pc : Int) + off = (tgt : Int)) (k : jl_E l G M u tgt ls st σ P) : jl_E l G M u pc ls (.ref x :: st) σ P := by
  obtain ⟨o, σ', hp, k⟩ := k
  exact ⟨o, σ', hp, jr_ifnonnull tgt hd ht k⟩
theorem er_ifnonnullN {off : Int} (hd : decode M.2.1 pc = .ok (.ifnonnull off, 3)) (k : jl_E l G M u (pc + 3) ls st σ P) : jl_E l G M u pc ls (.null :: st) σ P := by
  obtain ⟨o, σ', hp, k⟩ := k
  exact ⟨o, σ', hp, jr_ifnonnullN hd k⟩
theorem er_tableIn {dflt lo hi off : Int} {offs : Array Int} {len : Nat} {x : Int32} (tgt : Nat) (hd : decode M.2.1 pc = .ok (.tableswitch dflt lo hi offs, len)) (h1 : ¬ x.toInt < lo) (h2 : ¬ hi < x.toInt) (ho : offs[(x.toInt - lo).toNat]? = some off) (ht : (pc : Int) + off = (tgt : Int)) (k : jl_E l G M u tgt ls st σ P) : jl_E l G M u pc ls (.int x :: st) σ P := by
  obtain ⟨o, σ', hp, k⟩ := k
  exact ⟨o, σ', hp, jr_tableIn tgt hd h1 h2 ho ht k⟩
theorem er_tableOut {dflt lo hi : Int} {offs : Array Int} {len : Nat} {x : Int32} (tgt : Nat) (hd : decode M.2.1 pc = .ok (.tableswitch dflt lo hi offs, len)) (h1 : x.toInt < lo ∨ hi < x.toInt) (ht : (pc : Int) + dflt = (tgt : Int)) (k : jl_E l G M u tgt ls st σ P) : jl_E l G M u pc ls (.int x :: st) σ P := by
  obtain ⟨o, σ', hp, k⟩ := k
  exact ⟨o, σ', hp, jr_tableOut tgt hd h1 ht k⟩
theorem er_getf {idx ci kf a : Nat} {fs : List Value} {v : Value} (hd : decode M.2.1 pc = .ok (.getfield idx, 3)) (hf : jl_fd M idx ci kf = true) (ha : σ[a]? = some (.inr (ci, fs))) (hv : fs[kf]? = some v) (k : jl_E l G M u (pc + 3) ls (v :: st) σ P) : jl_E l G M u pc ls (.ref a :: st) σ P := by
  obtain ⟨o, σ', hp, k⟩ := k
  exact ⟨o, σ', hp, jr_getf hd hf ha hv k⟩
theorem er_putf {idx ci kf a : Nat} {fs : List Value} {v : Value} (hd : decode M.2.1 pc = .ok (.putfield idx, 3)) (hf : jl_fp M idx ci kf = true) (ha : σ[a]? = some (.inr (ci, fs))) (hl : kf < fs.length) (hv : jl_fit (jl_ty ci kf) v) (k : jl_E l G M u (pc + 3) ls st (σ.set a (.inr (ci, fs.set kf v))) P) : jl_E l G M u pc ls (v :: .ref a :: st) σ P := by
  obtain ⟨o, σ', hp, k⟩ := k
  exact ⟨o, σ', hp, jr_putf hd hf ha hl hv k⟩
theorem er_iald {a n : Nat} {f : Nat → Int32} {i : Int32} (hd : decode M.2.1 pc = .ok (.iaload, 1)) (ha : σ[a]? = some (.inl (0, n, .inl f))) (hi : vp_in i n) (k : jl_E l G M u (pc + 1) ls (.int (f i.toNatClampNeg) :: st) σ P) : jl_E l G M u pc ls (.int i :: .ref a :: st) σ P := by
  obtain ⟨o, σ', hp, k⟩ := k
  exact ⟨o, σ', hp, jr_iald hd ha hi k⟩
theorem er_bald {a n : Nat} {f : Nat → Int32} {i : Int32} (hd : decode M.2.1 pc = .ok (.baload, 1)) (ha : σ[a]? = some (.inl (1, n, .inl f))) (hi : vp_in i n) (k : jl_E l G M u (pc + 1) ls (.int (f i.toNatClampNeg) :: st) σ P) : jl_E l G M u pc ls (.int i :: .ref a :: st) σ P := by
  obtain ⟨o, σ', hp, k⟩ := k
  exact ⟨o, σ', hp, jr_bald hd ha hi k⟩
theorem er_lald {a n : Nat} {f : Nat → Int64} {i : Int32} (hd : decode M.2.1 pc = .ok (.laload, 1)) (ha : σ[a]? = some (.inl (2, n, .inr (.inl f)))) (hi : vp_in i n) (k : jl_E l G M u (pc + 1) ls (.long (f i.toNatClampNeg) :: st) σ P) : jl_E l G M u pc ls (.int i :: .ref a :: st) σ P := by
  obtain ⟨o, σ', hp, k⟩ := k
  exact ⟨o, σ', hp, jr_lald hd ha hi k⟩
theorem er_aald {a n : Nat} {f : Nat → Option Nat} {i : Int32} (hd : decode M.2.1 pc = .ok (.aaload, 1)) (ha : σ[a]? = some (.inl (3, n, .inr (.inr (.inr (.inr f)))))) (hi : vp_in i n) (k : jl_E l G M u (pc + 1) ls (va_rf (f i.toNatClampNeg) :: st) σ P) : jl_E l G M u pc ls (.int i :: .ref a :: st) σ P := by
  obtain ⟨o, σ', hp, k⟩ := k
  exact ⟨o, σ', hp, jr_aald hd ha hi k⟩
theorem er_iast {a n : Nat} {f : Nat → Int32} {i x : Int32} (hd : decode M.2.1 pc = .ok (.iastore, 1)) (ha : σ[a]? = some (.inl (0, n, .inl f))) (hi : vp_in i n) (k : jl_E l G M u (pc + 1) ls st (σ.set a (.inl (0, n, .inl (upd f i.toNatClampNeg x)))) P) : jl_E l G M u pc ls (.int x :: .int i :: .ref a :: st) σ P := by
  obtain ⟨o, σ', hp, k⟩ := k
  exact ⟨o, σ', hp, jr_iast hd ha hi k⟩
theorem er_bast {a n : Nat} {f : Nat → Int32} {i x : Int32} (hd : decode M.2.1 pc = .ok (.bastore, 1)) (ha : σ[a]? = some (.inl (1, n, .inl f))) (hi : vp_in i n) (k : jl_E l G M u (pc + 1) ls st (σ.set a (.inl (1, n, .inl (upd f i.toNatClampNeg (vp_nar .boolean x))))) P) : jl_E l G M u pc ls (.int x :: .int i :: .ref a :: st) σ P := by
  obtain ⟨o, σ', hp, k⟩ := k
  exact ⟨o, σ', hp, jr_bast hd ha hi k⟩
theorem er_last {a n : Nat} {f : Nat → Int64} {i : Int32} {x : Int64} (hd : decode M.2.1 pc = .ok (.lastore, 1)) (ha : σ[a]? = some (.inl (2, n, .inr (.inl f)))) (hi : vp_in i n) (k : jl_E l G M u (pc + 1) ls st (σ.set a (.inl (2, n, .inr (.inl (vp_updL f i.toNatClampNeg x))))) P) : jl_E l G M u pc ls (.long x :: .int i :: .ref a :: st) σ P := by
  obtain ⟨o, σ', hp, k⟩ := k
  exact ⟨o, σ', hp, jr_last hd ha hi k⟩
theorem er_aast {a n b : Nat} {f : Nat → Option Nat} {fs : List Value} {i : Int32} (hd : decode M.2.1 pc = .ok (.aastore, 1)) (ha : σ[a]? = some (.inl (3, n, .inr (.inr (.inr (.inr f)))))) (hb : σ[b]? = some (.inr (2, fs))) (hi : vp_in i n) (k : jl_E l G M u (pc + 1) ls st (σ.set a (.inl (3, n, .inr (.inr (.inr (.inr (va_up f i.toNatClampNeg (some b)))))))) P) : jl_E l G M u pc ls (.ref b :: .int i :: .ref a :: st) σ P := by
  obtain ⟨o, σ', hp, k⟩ := k
  exact ⟨o, σ', hp, jr_aast hd ha hb hi k⟩
theorem er_new {idx ci n : Nat} (hd : decode M.2.1 pc = .ok (.new idx, 3)) (hn : jl_nw M idx ci n = true) (h1 : u.1 + 1 ≤ M.2.2.2.2.1.cells) (h2 : u.2 + n ≤ M.2.2.2.2.1.slots) (k : jl_E l G M (u.1 + 1, u.2 + n) (pc + 3) ls (.ref σ.length :: st) (σ ++ [.inr (ci, jl_df ci n)]) P) : jl_E l G M u pc ls st σ P := by
  obtain ⟨o, σ', hp, k⟩ := k
  exact ⟨o, σ', hp, jr_new hd hn h1 h2 k⟩
theorem er_newI {N : Nat} {n : Int32} (hd : decode M.2.1 pc = .ok (.newarray .int, 2)) (hn : n = nI N) (hN : N ≤ 100000) (h1 : u.1 + 1 ≤ M.2.2.2.2.1.cells) (h2 : u.2 + N ≤ M.2.2.2.2.1.slots) (k : jl_E l G M (u.1 + 1, u.2 + N) (pc + 2) ls (.ref σ.length :: st) (σ ++ [.inl (0, N, .inl fun _ => 0)]) P) : jl_E l G M u pc ls (.int n :: st) σ P := by
  obtain ⟨o, σ', hp, k⟩ := k
  exact ⟨o, σ', hp, jr_newI hd hn hN h1 h2 k⟩
theorem er_newZ {N : Nat} {n : Int32} (hd : decode M.2.1 pc = .ok (.newarray .boolean, 2)) (hn : n = nI N) (hN : N ≤ 100000) (h1 : u.1 + 1 ≤ M.2.2.2.2.1.cells) (h2 : u.2 + N ≤ M.2.2.2.2.1.slots) (k : jl_E l G M (u.1 + 1, u.2 + N) (pc + 2) ls (.ref σ.length :: st) (σ ++ [.inl (1, N, .inl fun _ => 0)]) P) : jl_E l G M u pc ls (.int n :: st) σ P := by
  obtain ⟨o, σ', hp, k⟩ := k
  exact ⟨o, σ', hp, jr_newZ hd hn hN h1 h2 k⟩
theorem er_newA {N idx : Nat} {n : Int32} (hd : decode M.2.1 pc = .ok (.anewarray idx, 3)) (hc : Cond.classLink M.1.cls idx "JavaChain$Method" ∈ jl_gw) (hn : n = nI N) (hN : N ≤ 100000) (h1 : u.1 + 1 ≤ M.2.2.2.2.1.cells) (h2 : u.2 + N ≤ M.2.2.2.2.1.slots) (k : jl_E l G M (u.1 + 1, u.2 + N) (pc + 3) ls (.ref σ.length :: st) (σ ++ [.inl (3, N, .inr (.inr (.inr (.inr fun _ => none))))]) P) : jl_E l G M u pc ls (.int n :: st) σ P := by
  obtain ⟨o, σ', hp, k⟩ := k
  exact ⟨o, σ', hp, jr_newA hd hc hn hN h1 h2 k⟩
theorem er_gets {idx ci : Nat} {nm own : String} (t : Nat) (hd : decode M.2.1 pc = .ok (.getstatic idx, 3)) (ho : M.1.cls = own) (hw : (own, idx, nm, t) ∈ [("JavaChain$Checker", 39, "TAKES", G.2.2.2.1), ("JavaChain$Checker", 86, "PUTS", G.2.2.2.2.1), ("JavaChain$Verifier", 163, "PUTS", G.2.2.2.2.1)]) (k : jl_E l G M u (pc + 3) ls (.retAddr t :: st) σ P) : jl_E l G M u pc ls st σ P := by
  obtain ⟨o, σ', hp, k⟩ := k
  exact ⟨o, σ', hp, jr_gets (ci := ci) t hd ho hw k⟩
theorem er_tkld {i : Int32} (hd : decode M.2.1 pc = .ok (.iaload, 1)) (hi : vp_in i 26) (k : jl_E l G M u (pc + 1) ls (.int (jl_tk.getD i.toNatClampNeg 0) :: st) σ P) : jl_E l G M u pc ls (.int i :: .retAddr G.2.2.2.1 :: st) σ P := by
  obtain ⟨o, σ', hp, k⟩ := k
  exact ⟨o, σ', hp, jr_tkld hd hi k⟩
theorem er_ptld {i : Int32} (hd : decode M.2.1 pc = .ok (.iaload, 1)) (hi : vp_in i 26) (k : jl_E l G M u (pc + 1) ls (.int (jl_pt.getD i.toNatClampNeg 0) :: st) σ P) : jl_E l G M u pc ls (.int i :: .retAddr G.2.2.2.2.1 :: st) σ P := by
  obtain ⟨o, σ', hp, k⟩ := k
  exact ⟨o, σ', hp, jr_ptld hd hi k⟩
theorem er_sld {i : Int32} (hd : decode M.2.1 pc = .ok (.iaload, 1)) (hi : vp_in i G.2.2.2.2.2.2.1) (k : jl_E l G M u (pc + 1) ls (.int (G.2.2.2.2.2.2.2 i.toNatClampNeg) :: st) σ P) : jl_E l G M u pc ls (.int i :: .retAddr G.2.2.2.2.2.1 :: st) σ P := by
  obtain ⟨o, σ', hp, k⟩ := k
  exact ⟨o, σ', hp, jr_sld hd hi k⟩
theorem er_slen (hd : decode M.2.1 pc = .ok (.arraylength, 1)) (k : jl_E l G M u (pc + 1) ls (.int (Int32.ofNat G.2.2.2.2.2.2.1) :: st) σ P) : jl_E l G M u pc ls (.retAddr G.2.2.2.2.2.1 :: st) σ P := by
  obtain ⟨o, σ', hp, k⟩ := k
  exact ⟨o, σ', hp, jr_slen hd k⟩
theorem er_callV {idx n b ci : Nat} {fs As : List Value} {r : vw_C} {M' : jl_M} {v : Option Value} {σ1 : jl_S} (hd : decode M.2.1 pc = .ok (.invokevirtual idx, 3)) (hc : jl_cv M M' idx n = true) (hb : σ[b]? = some (.inr (ci, fs))) (hr : jl_cl[ci]? = some r) (hC : r.1 = M'.1.cls) (hn : As.length = n) (hst : (st.map fun v => v.category).sum ≤ 8) (h1 : u.1 + M'.2.2.2.2.1.cells ≤ M.2.2.2.2.1.cells) (h2 : u.2 + M'.2.2.2.2.1.slots ≤ M.2.2.2.2.1.slots) (hm : jl_m l G M' (.ref b :: As) σ (.inl v) σ1) (k : jl_E l G M (u.1 + M'.2.2.2.2.1.cells, u.2 + M'.2.2.2.2.1.slots) (pc + 3) ls (v.toList ++ st) σ1 P) : jl_E l G M u pc ls (As.reverse ++ .ref b :: st) σ P := by
  obtain ⟨o, σ', hp, k⟩ := k
  exact ⟨o, σ', hp, jr_callV hd hc hb hr hC hn hst h1 h2 hm k⟩
theorem er_callS {idx n : Nat} {As : List Value} {M' : jl_M} {v : Option Value} {σ1 : jl_S} (hd : decode M.2.1 pc = .ok (.invokestatic idx, 3)) (hc : jl_cz M M' idx n = true) (hn : As.length = n) (hst : (st.map fun v => v.category).sum ≤ 8) (h1 : u.1 + M'.2.2.2.2.1.cells ≤ M.2.2.2.2.1.cells) (h2 : u.2 + M'.2.2.2.2.1.slots ≤ M.2.2.2.2.1.slots) (hm : jl_m l G M' As σ (.inl v) σ1) (k : jl_E l G M (u.1 + M'.2.2.2.2.1.cells, u.2 + M'.2.2.2.2.1.slots) (pc + 3) ls (v.toList ++ st) σ1 P) : jl_E l G M u pc ls (As.reverse ++ st) σ P := by
  obtain ⟨o, σ', hp, k⟩ := k
  exact ⟨o, σ', hp, jr_callS hd hc hn hst h1 h2 hm k⟩
theorem er_callI {idx n b : Nat} {As : List Value} {M' : jl_M} {σ1 : jl_S} (hd : decode M.2.1 pc = .ok (.invokespecial idx, 3)) (hc : jl_ci M M' idx n = true) (hn : As.length = n) (hst : (st.map fun v => v.category).sum ≤ 8) (h1 : u.1 + M'.2.2.2.2.1.cells ≤ M.2.2.2.2.1.cells) (h2 : u.2 + M'.2.2.2.2.1.slots ≤ M.2.2.2.2.1.slots) (hm : jl_m l G M' (.ref b :: As) σ (.inl none) σ1) (k : jl_E l G M (u.1 + M'.2.2.2.2.1.cells, u.2 + M'.2.2.2.2.1.slots) (pc + 3) ls st σ1 P) : jl_E l G M u pc ls (As.reverse ++ .ref b :: st) σ P := by
  obtain ⟨o, σ', hp, k⟩ := k
  exact ⟨o, σ', hp, jr_callI hd hc hn hst h1 h2 hm k⟩
theorem er_obj {idx b : Nat} (hd : decode M.2.1 pc = .ok (.invokespecial idx, 3)) (hc : Cond.methodLink M.1.cls idx Lib.objectInit ∈ jl_gw) (h1 : 1 ≤ M.2.2.2.2.1.frames) (h2 : (st.map fun v => v.category).sum ≤ 8) (h3 : 20 ≤ M.2.2.2.2.1.locals) (k : jl_E l G M u (pc + 3) ls st σ P) : jl_E l G M u pc ls (.ref b :: st) σ P := by
  obtain ⟨o, σ', hp, k⟩ := k
  exact ⟨o, σ', hp, jr_obj hd hc h1 h2 h3 k⟩
theorem er_copy {idx a0 a1 k0 k1 : Nat} {f g : Nat → Int32} {sp dp n : Nat} (hd : decode M.2.1 pc = .ok (.invokestatic idx, 3)) (hc : Cond.methodLink M.1.cls idx arraycopyName ∈ jl_gw) (ha0 : σ[a0]? = some (.inl (0, k0, .inl f))) (ha1 : σ[a1]? = some (.inl (0, k1, .inl g))) (hs : sp + n ≤ k0) (ht : dp + n ≤ k1) (hk : k0 < 2 ^ 31 ∧ k1 < 2 ^ 31) (h1 : 1 ≤ M.2.2.2.2.1.frames) (h2 : (st.map fun v => v.category).sum ≤ 8) (h3 : 40 ≤ M.2.2.2.2.1.locals) (k : jl_E l G M u (pc + 3) ls st (σ.set a1 (.inl (0, k1, .inl (va_cpy f g sp dp n)))) P) : jl_E l G M u pc ls (.int (nI n) :: .int (nI dp) :: .ref a1 :: .int (nI sp) :: .ref a0 :: st) σ P := by
  obtain ⟨o, σ', hp, k⟩ := k
  exact ⟨o, σ', hp, jr_copy hd hc ha0 ha1 hs ht hk h1 h2 h3 k⟩
theorem er_newJ {N : Nat} {n : Int32} (hd : decode M.2.1 pc = .ok (.newarray .long, 2)) (hn : n = nI N) (hN : N ≤ 100000) (h1 : u.1 + 1 ≤ M.2.2.2.2.1.cells) (h2 : u.2 + N ≤ M.2.2.2.2.1.slots) (k : jl_E l G M (u.1 + 1, u.2 + N) (pc + 2) ls (.ref σ.length :: st) (σ ++ [.inl (2, N, .inr (.inl fun _ => 0))]) P) : jl_E l G M u pc ls (.int n :: st) σ P := by
  obtain ⟨o, σ', hp, k⟩ := k
  exact ⟨o, σ', hp, jr_newJ hd hn hN h1 h2 k⟩
theorem er_callIN {b : Nat} {M' : jl_M} {σ1 : jl_S} (hd : decode M.2.1 pc = .ok (.invokespecial 11, 3)) (hc : jl_cn M M' 0 = true) (hst : (st.map fun v => v.category).sum ≤ 8) (h1 : u.1 + M'.2.2.2.2.1.cells ≤ M.2.2.2.2.1.cells) (h2 : u.2 + M'.2.2.2.2.1.slots ≤ M.2.2.2.2.1.slots) (hm : jl_m l G M' [.ref b] σ (.inl none) σ1) (k : jl_E l G M (u.1 + M'.2.2.2.2.1.cells, u.2 + M'.2.2.2.2.1.slots) (pc + 3) ls st σ1 P) : jl_E l G M u pc ls (.ref b :: st) σ P := by
  obtain ⟨o, σ', hp, k⟩ := k
  exact ⟨o, σ', hp, jr_callIN hd hc hst h1 h2 hm k⟩
theorem er_iaddN {x y : Nat} (hd : decode M.2.1 pc = .ok (.iadd, 1)) (k : jl_E l G M u (pc + 1) ls (.int (nI (x + y)) :: st) σ P) : jl_E l G M u pc ls (.int (nI y) :: .int (nI x) :: st) σ P := by
  obtain ⟨o, σ', hp, k⟩ := k
  exact ⟨o, σ', hp, jr_iaddN hd k⟩
theorem er_imulN {x y : Nat} (hd : decode M.2.1 pc = .ok (.imul, 1)) (k : jl_E l G M u (pc + 1) ls (.int (nI (x * y)) :: st) σ P) : jl_E l G M u pc ls (.int (nI y) :: .int (nI x) :: st) σ P := by
  obtain ⟨o, σ', hp, k⟩ := k
  exact ⟨o, σ', hp, jr_imulN hd k⟩
theorem er_isubN {x y : Nat} (hd : decode M.2.1 pc = .ok (.isub, 1)) (h : y ≤ x) (k : jl_E l G M u (pc + 1) ls (.int (nI (x - y)) :: st) σ P) : jl_E l G M u pc ls (.int (nI y) :: .int (nI x) :: st) σ P := by
  obtain ⟨o, σ', hp, k⟩ := k
  exact ⟨o, σ', hp, jr_isubN hd h k⟩
theorem er_idivN {x y : Nat} (hd : decode M.2.1 pc = .ok (.idiv, 1)) (hx : x < 2 ^ 31) (h0 : 0 < y) (hy : y < 2 ^ 31) (k : jl_E l G M u (pc + 1) ls (.int (nI (x / y)) :: st) σ P) : jl_E l G M u pc ls (.int (nI y) :: .int (nI x) :: st) σ P := by
  obtain ⟨o, σ', hp, k⟩ := k
  exact ⟨o, σ', hp, jr_idivN hd hx h0 hy k⟩
theorem er_iremN {x y : Nat} (hd : decode M.2.1 pc = .ok (.irem, 1)) (hx : x < 2 ^ 31) (h0 : 0 < y) (hy : y < 2 ^ 31) (k : jl_E l G M u (pc + 1) ls (.int (nI (x % y)) :: st) σ P) : jl_E l G M u pc ls (.int (nI y) :: .int (nI x) :: st) σ P := by
  obtain ⟨o, σ', hp, k⟩ := k
  exact ⟨o, σ', hp, jr_iremN hd hx h0 hy k⟩
theorem er_ialdN {a n i : Nat} {f : Nat → Int32} (hd : decode M.2.1 pc = .ok (.iaload, 1)) (ha : σ[a]? = some (.inl (0, n, .inl f))) (hi : i < n) (hn : n < 2 ^ 31) (k : jl_E l G M u (pc + 1) ls (.int (f i) :: st) σ P) : jl_E l G M u pc ls (.int (nI i) :: .ref a :: st) σ P := by
  obtain ⟨o, σ', hp, k⟩ := k
  exact ⟨o, σ', hp, jr_ialdN hd ha hi hn k⟩
theorem er_baldN {a n i : Nat} {f : Nat → Int32} (hd : decode M.2.1 pc = .ok (.baload, 1)) (ha : σ[a]? = some (.inl (1, n, .inl f))) (hi : i < n) (hn : n < 2 ^ 31) (k : jl_E l G M u (pc + 1) ls (.int (f i) :: st) σ P) : jl_E l G M u pc ls (.int (nI i) :: .ref a :: st) σ P := by
  obtain ⟨o, σ', hp, k⟩ := k
  exact ⟨o, σ', hp, jr_baldN hd ha hi hn k⟩
theorem er_aaldN {a n i : Nat} {f : Nat → Option Nat} (hd : decode M.2.1 pc = .ok (.aaload, 1)) (ha : σ[a]? = some (.inl (3, n, .inr (.inr (.inr (.inr f)))))) (hi : i < n) (hn : n < 2 ^ 31) (k : jl_E l G M u (pc + 1) ls (va_rf (f i) :: st) σ P) : jl_E l G M u pc ls (.int (nI i) :: .ref a :: st) σ P := by
  obtain ⟨o, σ', hp, k⟩ := k
  exact ⟨o, σ', hp, jr_aaldN hd ha hi hn k⟩
theorem er_iastN {a n i : Nat} {f : Nat → Int32} {x : Int32} (hd : decode M.2.1 pc = .ok (.iastore, 1)) (ha : σ[a]? = some (.inl (0, n, .inl f))) (hi : i < n) (hn : n < 2 ^ 31) (k : jl_E l G M u (pc + 1) ls st (σ.set a (.inl (0, n, .inl (upd f i x)))) P) : jl_E l G M u pc ls (.int x :: .int (nI i) :: .ref a :: st) σ P := by
  obtain ⟨o, σ', hp, k⟩ := k
  exact ⟨o, σ', hp, jr_iastN hd ha hi hn k⟩
theorem er_bastN {a n i : Nat} {f : Nat → Int32} {x : Int32} (hd : decode M.2.1 pc = .ok (.bastore, 1)) (ha : σ[a]? = some (.inl (1, n, .inl f))) (hi : i < n) (hn : n < 2 ^ 31) (hx : x = 0 ∨ x = 1) (k : jl_E l G M u (pc + 1) ls st (σ.set a (.inl (1, n, .inl (upd f i x)))) P) : jl_E l G M u pc ls (.int x :: .int (nI i) :: .ref a :: st) σ P := by
  obtain ⟨o, σ', hp, k⟩ := k
  exact ⟨o, σ', hp, jr_bastN hd ha hi hn hx k⟩
theorem er_aastN {a n b i : Nat} {f : Nat → Option Nat} {fs : List Value} (hd : decode M.2.1 pc = .ok (.aastore, 1)) (ha : σ[a]? = some (.inl (3, n, .inr (.inr (.inr (.inr f)))))) (hb : σ[b]? = some (.inr (2, fs))) (hi : i < n) (hn : n < 2 ^ 31) (k : jl_E l G M u (pc + 1) ls st (σ.set a (.inl (3, n, .inr (.inr (.inr (.inr (va_up f i (some b)))))))) P) : jl_E l G M u pc ls (.ref b :: .int (nI i) :: .ref a :: st) σ P := by
  obtain ⟨o, σ', hp, k⟩ := k
  exact ⟨o, σ', hp, jr_aastN hd ha hb hi hn k⟩
theorem er_icmp_eqN {x y : Nat} {off : Int} (tgt : Nat) (hd : decode M.2.1 pc = .ok (.if_icmp .eq off, 3)) (ht : (pc : Int) + off = (tgt : Int)) (hx : x < 2 ^ 31) (hy : y < 2 ^ 31) (kt : x = y → jl_E l G M u tgt ls st σ P) (kf : x ≠ y → jl_E l G M u (pc + 3) ls st σ P) : jl_E l G M u pc ls (.int (nI y) :: .int (nI x) :: st) σ P := by
  by_cases q : x = y
  · obtain ⟨o, σ', hp, w⟩ := kt q
    exact ⟨o, σ', hp, jr_icmp_eqN tgt hd ht hx hy (fun _ => w) (fun z => absurd q z)⟩
  · obtain ⟨o, σ', hp, w⟩ := kf q
    exact ⟨o, σ', hp, jr_icmp_eqN tgt hd ht hx hy (fun z => absurd z q) (fun _ => w)⟩
theorem er_if_eqN {x : Nat} {off : Int} (tgt : Nat) (hd : decode M.2.1 pc = .ok (.ifCond .eq off, 3)) (ht : (pc : Int) + off = (tgt : Int)) (hx : x < 2 ^ 31) (kt : x = 0 → jl_E l G M u tgt ls st σ P) (kf : x ≠ 0 → jl_E l G M u (pc + 3) ls st σ P) : jl_E l G M u pc ls (.int (nI x) :: st) σ P := by
  by_cases q : x = 0
  · obtain ⟨o, σ', hp, w⟩ := kt q
    exact ⟨o, σ', hp, jr_if_eqN tgt hd ht hx (fun _ => w) (fun z => absurd q z)⟩
  · obtain ⟨o, σ', hp, w⟩ := kf q
    exact ⟨o, σ', hp, jr_if_eqN tgt hd ht hx (fun z => absurd z q) (fun _ => w)⟩
theorem er_icmp_neN {x y : Nat} {off : Int} (tgt : Nat) (hd : decode M.2.1 pc = .ok (.if_icmp .ne off, 3)) (ht : (pc : Int) + off = (tgt : Int)) (hx : x < 2 ^ 31) (hy : y < 2 ^ 31) (kt : x ≠ y → jl_E l G M u tgt ls st σ P) (kf : x = y → jl_E l G M u (pc + 3) ls st σ P) : jl_E l G M u pc ls (.int (nI y) :: .int (nI x) :: st) σ P := by
  by_cases q : x ≠ y
  · obtain ⟨o, σ', hp, w⟩ := kt q
    exact ⟨o, σ', hp, jr_icmp_neN tgt hd ht hx hy (fun _ => w) (fun z => absurd z q)⟩
  · obtain ⟨o, σ', hp, w⟩ := kf (Classical.not_not.mp q)
    exact ⟨o, σ', hp, jr_icmp_neN tgt hd ht hx hy (fun z => absurd z q) (fun _ => w)⟩
theorem er_if_neN {x : Nat} {off : Int} (tgt : Nat) (hd : decode M.2.1 pc = .ok (.ifCond .ne off, 3)) (ht : (pc : Int) + off = (tgt : Int)) (hx : x < 2 ^ 31) (kt : x ≠ 0 → jl_E l G M u tgt ls st σ P) (kf : x = 0 → jl_E l G M u (pc + 3) ls st σ P) : jl_E l G M u pc ls (.int (nI x) :: st) σ P := by
  by_cases q : x ≠ 0
  · obtain ⟨o, σ', hp, w⟩ := kt q
    exact ⟨o, σ', hp, jr_if_neN tgt hd ht hx (fun _ => w) (fun z => absurd z q)⟩
  · obtain ⟨o, σ', hp, w⟩ := kf (Classical.not_not.mp q)
    exact ⟨o, σ', hp, jr_if_neN tgt hd ht hx (fun z => absurd z q) (fun _ => w)⟩
theorem er_icmp_ltN {x y : Nat} {off : Int} (tgt : Nat) (hd : decode M.2.1 pc = .ok (.if_icmp .lt off, 3)) (ht : (pc : Int) + off = (tgt : Int)) (hx : x < 2 ^ 31) (hy : y < 2 ^ 31) (kt : x < y → jl_E l G M u tgt ls st σ P) (kf : y ≤ x → jl_E l G M u (pc + 3) ls st σ P) : jl_E l G M u pc ls (.int (nI y) :: .int (nI x) :: st) σ P := by
  by_cases q : x < y
  · obtain ⟨o, σ', hp, w⟩ := kt q
    exact ⟨o, σ', hp, jr_icmp_ltN tgt hd ht hx hy (fun _ => w) (fun z => absurd q (by omega))⟩
  · obtain ⟨o, σ', hp, w⟩ := kf (by omega)
    exact ⟨o, σ', hp, jr_icmp_ltN tgt hd ht hx hy (fun z => absurd z q) (fun _ => w)⟩
theorem er_if_ltN {x : Nat} {off : Int} (tgt : Nat) (hd : decode M.2.1 pc = .ok (.ifCond .lt off, 3)) (ht : (pc : Int) + off = (tgt : Int)) (hx : x < 2 ^ 31) (kt : x < 0 → jl_E l G M u tgt ls st σ P) (kf : 0 ≤ x → jl_E l G M u (pc + 3) ls st σ P) : jl_E l G M u pc ls (.int (nI x) :: st) σ P := by
  by_cases q : x < 0
  · obtain ⟨o, σ', hp, w⟩ := kt q
    exact ⟨o, σ', hp, jr_if_ltN tgt hd ht hx (fun _ => w) (fun z => absurd q (by omega))⟩
  · obtain ⟨o, σ', hp, w⟩ := kf (by omega)
    exact ⟨o, σ', hp, jr_if_ltN tgt hd ht hx (fun z => absurd z q) (fun _ => w)⟩
theorem er_icmp_geN {x y : Nat} {off : Int} (tgt : Nat) (hd : decode M.2.1 pc = .ok (.if_icmp .ge off, 3)) (ht : (pc : Int) + off = (tgt : Int)) (hx : x < 2 ^ 31) (hy : y < 2 ^ 31) (kt : y ≤ x → jl_E l G M u tgt ls st σ P) (kf : x < y → jl_E l G M u (pc + 3) ls st σ P) : jl_E l G M u pc ls (.int (nI y) :: .int (nI x) :: st) σ P := by
  by_cases q : y ≤ x
  · obtain ⟨o, σ', hp, w⟩ := kt q
    exact ⟨o, σ', hp, jr_icmp_geN tgt hd ht hx hy (fun _ => w) (fun z => absurd q (by omega))⟩
  · obtain ⟨o, σ', hp, w⟩ := kf (by omega)
    exact ⟨o, σ', hp, jr_icmp_geN tgt hd ht hx hy (fun z => absurd z q) (fun _ => w)⟩
theorem er_if_geN {x : Nat} {off : Int} (tgt : Nat) (hd : decode M.2.1 pc = .ok (.ifCond .ge off, 3)) (ht : (pc : Int) + off = (tgt : Int)) (hx : x < 2 ^ 31) (kt : 0 ≤ x → jl_E l G M u tgt ls st σ P) (kf : x < 0 → jl_E l G M u (pc + 3) ls st σ P) : jl_E l G M u pc ls (.int (nI x) :: st) σ P := by
  by_cases q : 0 ≤ x
  · obtain ⟨o, σ', hp, w⟩ := kt q
    exact ⟨o, σ', hp, jr_if_geN tgt hd ht hx (fun _ => w) (fun z => absurd q (by omega))⟩
  · obtain ⟨o, σ', hp, w⟩ := kf (by omega)
    exact ⟨o, σ', hp, jr_if_geN tgt hd ht hx (fun z => absurd z q) (fun _ => w)⟩
theorem er_icmp_gtN {x y : Nat} {off : Int} (tgt : Nat) (hd : decode M.2.1 pc = .ok (.if_icmp .gt off, 3)) (ht : (pc : Int) + off = (tgt : Int)) (hx : x < 2 ^ 31) (hy : y < 2 ^ 31) (kt : y < x → jl_E l G M u tgt ls st σ P) (kf : x ≤ y → jl_E l G M u (pc + 3) ls st σ P) : jl_E l G M u pc ls (.int (nI y) :: .int (nI x) :: st) σ P := by
  by_cases q : y < x
  · obtain ⟨o, σ', hp, w⟩ := kt q
    exact ⟨o, σ', hp, jr_icmp_gtN tgt hd ht hx hy (fun _ => w) (fun z => absurd q (by omega))⟩
  · obtain ⟨o, σ', hp, w⟩ := kf (by omega)
    exact ⟨o, σ', hp, jr_icmp_gtN tgt hd ht hx hy (fun z => absurd z q) (fun _ => w)⟩
theorem er_if_gtN {x : Nat} {off : Int} (tgt : Nat) (hd : decode M.2.1 pc = .ok (.ifCond .gt off, 3)) (ht : (pc : Int) + off = (tgt : Int)) (hx : x < 2 ^ 31) (kt : 0 < x → jl_E l G M u tgt ls st σ P) (kf : x ≤ 0 → jl_E l G M u (pc + 3) ls st σ P) : jl_E l G M u pc ls (.int (nI x) :: st) σ P := by
  by_cases q : 0 < x
  · obtain ⟨o, σ', hp, w⟩ := kt q
    exact ⟨o, σ', hp, jr_if_gtN tgt hd ht hx (fun _ => w) (fun z => absurd q (by omega))⟩
  · obtain ⟨o, σ', hp, w⟩ := kf (by omega)
    exact ⟨o, σ', hp, jr_if_gtN tgt hd ht hx (fun z => absurd z q) (fun _ => w)⟩
theorem er_icmp_leN {x y : Nat} {off : Int} (tgt : Nat) (hd : decode M.2.1 pc = .ok (.if_icmp .le off, 3)) (ht : (pc : Int) + off = (tgt : Int)) (hx : x < 2 ^ 31) (hy : y < 2 ^ 31) (kt : x ≤ y → jl_E l G M u tgt ls st σ P) (kf : y < x → jl_E l G M u (pc + 3) ls st σ P) : jl_E l G M u pc ls (.int (nI y) :: .int (nI x) :: st) σ P := by
  by_cases q : x ≤ y
  · obtain ⟨o, σ', hp, w⟩ := kt q
    exact ⟨o, σ', hp, jr_icmp_leN tgt hd ht hx hy (fun _ => w) (fun z => absurd q (by omega))⟩
  · obtain ⟨o, σ', hp, w⟩ := kf (by omega)
    exact ⟨o, σ', hp, jr_icmp_leN tgt hd ht hx hy (fun z => absurd z q) (fun _ => w)⟩
theorem er_if_leN {x : Nat} {off : Int} (tgt : Nat) (hd : decode M.2.1 pc = .ok (.ifCond .le off, 3)) (ht : (pc : Int) + off = (tgt : Int)) (hx : x < 2 ^ 31) (kt : x ≤ 0 → jl_E l G M u tgt ls st σ P) (kf : 0 < x → jl_E l G M u (pc + 3) ls st σ P) : jl_E l G M u pc ls (.int (nI x) :: st) σ P := by
  by_cases q : x ≤ 0
  · obtain ⟨o, σ', hp, w⟩ := kt q
    exact ⟨o, σ', hp, jr_if_leN tgt hd ht hx (fun _ => w) (fun z => absurd q (by omega))⟩
  · obtain ⟨o, σ', hp, w⟩ := kf (by omega)
    exact ⟨o, σ', hp, jr_if_leN tgt hd ht hx (fun z => absurd z q) (fun _ => w)⟩
theorem er_newIL {N b : Nat} {n : Int32} (hd : decode M.2.1 pc = .ok (.newarray .int, 2)) (hL : σ.length = b) (hn : n = nI N) (hN : N ≤ 100000) (h1 : u.1 + 1 ≤ M.2.2.2.2.1.cells) (h2 : u.2 + N ≤ M.2.2.2.2.1.slots) (k : jl_E l G M (u.1 + 1, u.2 + N) (pc + 2) ls (.ref b :: st) (σ ++ [.inl (0, N, .inl fun _ => 0)]) P) : jl_E l G M u pc ls (.int n :: st) σ P := by
  obtain ⟨o, σ', hp, k⟩ := k
  exact ⟨o, σ', hp, jr_newIL hd hL hn hN h1 h2 k⟩
theorem er_newZL {N b : Nat} {n : Int32} (hd : decode M.2.1 pc = .ok (.newarray .boolean, 2)) (hL : σ.length = b) (hn : n = nI N) (hN : N ≤ 100000) (h1 : u.1 + 1 ≤ M.2.2.2.2.1.cells) (h2 : u.2 + N ≤ M.2.2.2.2.1.slots) (k : jl_E l G M (u.1 + 1, u.2 + N) (pc + 2) ls (.ref b :: st) (σ ++ [.inl (1, N, .inl fun _ => 0)]) P) : jl_E l G M u pc ls (.int n :: st) σ P := by
  obtain ⟨o, σ', hp, k⟩ := k
  exact ⟨o, σ', hp, jr_newZL hd hL hn hN h1 h2 k⟩
theorem er_newJL {N b : Nat} {n : Int32} (hd : decode M.2.1 pc = .ok (.newarray .long, 2)) (hL : σ.length = b) (hn : n = nI N) (hN : N ≤ 100000) (h1 : u.1 + 1 ≤ M.2.2.2.2.1.cells) (h2 : u.2 + N ≤ M.2.2.2.2.1.slots) (k : jl_E l G M (u.1 + 1, u.2 + N) (pc + 2) ls (.ref b :: st) (σ ++ [.inl (2, N, .inr (.inl fun _ => 0))]) P) : jl_E l G M u pc ls (.int n :: st) σ P := by
  obtain ⟨o, σ', hp, k⟩ := k
  exact ⟨o, σ', hp, jr_newJL hd hL hn hN h1 h2 k⟩
theorem er_newAL {N b idx : Nat} {n : Int32} (hd : decode M.2.1 pc = .ok (.anewarray idx, 3)) (hc : Cond.classLink M.1.cls idx "JavaChain$Method" ∈ jl_gw) (hL : σ.length = b) (hn : n = nI N) (hN : N ≤ 100000) (h1 : u.1 + 1 ≤ M.2.2.2.2.1.cells) (h2 : u.2 + N ≤ M.2.2.2.2.1.slots) (k : jl_E l G M (u.1 + 1, u.2 + N) (pc + 3) ls (.ref b :: st) (σ ++ [.inl (3, N, .inr (.inr (.inr (.inr fun _ => none))))]) P) : jl_E l G M u pc ls (.int n :: st) σ P := by
  obtain ⟨o, σ', hp, k⟩ := k
  exact ⟨o, σ', hp, jr_newAL hd hc hL hn hN h1 h2 k⟩
theorem er_newOL {idx ci n b : Nat} {fs : List Value} (hd : decode M.2.1 pc = .ok (.new idx, 3)) (hn : jl_nw M idx ci n = true) (hf : jl_df ci n = fs) (hL : σ.length = b) (h1 : u.1 + 1 ≤ M.2.2.2.2.1.cells) (h2 : u.2 + n ≤ M.2.2.2.2.1.slots) (k : jl_E l G M (u.1 + 1, u.2 + n) (pc + 3) ls (.ref b :: st) (σ ++ [.inr (ci, fs)]) P) : jl_E l G M u pc ls st σ P := by
  obtain ⟨o, σ', hp, k⟩ := k
  exact ⟨o, σ', hp, jr_newOL hd hn hf hL h1 h2 k⟩
theorem er_callVX {idx n b ci : Nat} {fs As : List Value} {r : vw_C} {M' : jl_M} {E : String} {σ1 : jl_S} (hd : decode M.2.1 pc = .ok (.invokevirtual idx, 3)) (hc : jl_cv M M' idx n = true) (ht : jl_tbl M = []) (hb : σ[b]? = some (.inr (ci, fs))) (hr : jl_cl[ci]? = some r) (hC : r.1 = M'.1.cls) (hn : As.length = n) (hst : (st.map fun v => v.category).sum ≤ 8)
    (h1 : u.1 + M'.2.2.2.2.1.cells ≤ M.2.2.2.2.1.cells) (h2 : u.2 + M'.2.2.2.2.1.slots ≤ M.2.2.2.2.1.slots) (hm : jl_m l G M' (.ref b :: As) σ (.inr E) σ1) (hP : P (.inr E) σ1) : jl_E l G M u pc ls (As.reverse ++ .ref b :: st) σ P := ⟨_, _, hP, jr_callVX hd hc ht hb hr hC hn hst h1 h2 hm⟩
theorem er_callSX {idx n : Nat} {As : List Value} {M' : jl_M} {E : String} {σ1 : jl_S} (hd : decode M.2.1 pc = .ok (.invokestatic idx, 3)) (hc : jl_cz M M' idx n = true) (ht : jl_tbl M = []) (hn : As.length = n) (hst : (st.map fun v => v.category).sum ≤ 8)
    (h1 : u.1 + M'.2.2.2.2.1.cells ≤ M.2.2.2.2.1.cells) (h2 : u.2 + M'.2.2.2.2.1.slots ≤ M.2.2.2.2.1.slots) (hm : jl_m l G M' As σ (.inr E) σ1) (hP : P (.inr E) σ1) : jl_E l G M u pc ls (As.reverse ++ st) σ P := ⟨_, _, hP, jr_callSX hd hc ht hn hst h1 h2 hm⟩
end JEr
