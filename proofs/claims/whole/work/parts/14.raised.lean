section
variable {pg : Program} {l : Launch} {ev : Env} {R : Room} {s : State} {mi : MethodId} {args : Array Value} {below : List Frame} {meth : Method} {co : Code} {H : Heap} {locs : List Loc} {cells slots : Nat} {Q : State → Prop}
set_option maxHeartbeats 4000000 in
set_option maxRecDepth 100000 in
theorem lp_X_raised_9 (hx : pg.tables.exec = Jvm.exec) (hb : co.code = b_X_raised) {b e0 M : Nat} (he : e0 < 2 ^ 32) (hM : M ≤ 2750058481) (k53 : ∀ (i : Nat) (x : Nat) (y : Nat) (ls : Array Slot), lv_has ls 11 [(10, .int (nI i)), (6, .long (lN x)), (8, .long (lN y)), (0, .long (lN b)), (2, .long (lN e0)), (4, .long (lN M))] → (x = b ^ e0 % M) → W pg l ev R s mi args below meth co H locs cells slots Q (F0 mi 53 ls [])) : ∀ (mz : Nat) (i : Nat) (x : Nat) (y : Nat) (ls : Array Slot), lv_has ls 11 [(10, .int (nI i)), (6, .long (lN x)), (8, .long (lN y)), (0, .long (lN b)), (2, .long (lN e0)), (4, .long (lN M))] → (i ≤ 32) → (x < M) → (y < M) → (x * y ^ (e0 / 2 ^ i) % M = b ^ e0 % M) → 32 - i = mz → W pg l ev R s mi args below meth co H locs cells slots Q (F0 mi 9 ls []) := by
  intro mz
  induction mz using Nat.strongRecOn with
  | ind mz ih =>
    intro i x y ls hl h1 h2 h3 h4 hk
    subst hk
    refine lv_iload hx hb d_X_raised_9 (lv_at hl 0 rfl) ?_
    refine lv_bipush (v := nI 32) hx hb d_X_raised_11 (by decide) ?_
    refine lv_icmp_ge (tgt := 53) hx hb d_X_raised_13 (by decide) (fun hc13 => ?_) (fun hc13 => ?_)
    · skip
      rw [nI_leI (a := 32) (b := i) (by omega) (by omega)] at hc13
      exact k53 i x y ls (lv_sub hl [0, 1, 2, 3, 4, 5] rfl) (rs_end (by omega) he h2 h4)
    · skip
      rw [nI_leI (a := 32) (b := i) (by omega) (by omega)] at hc13
      refine lv_lload_n hx hb d_X_raised_16 rfl (lv_at hl 4 rfl) ?_
      refine lv_iload hx hb d_X_raised_17 (lv_at hl 0 rfl) ?_
      refine lv_lshr (v := lN (e0 / 2 ^ i)) hx hb d_X_raised_19 (rs_bit (by omega) (by omega)) ?_
      refine lv_lconst (v := lN 1) hx hb d_X_raised_20 rfl ?_
      refine lv_land hx hb d_X_raised_21 ?_
      refine wk_l (y := lN (e0 / 2 ^ i % 2)) (wb_a1 (n := e0 / 2 ^ i) (Nat.lt_of_le_of_lt (Nat.div_le_self _ _) (by omega))) ?_
      refine lv_lconst (v := lN 1) hx hb d_X_raised_22 rfl ?_
      refine W.lcmp hx hb d_X_raised_23 ?_
      refine lv_if_ne (tgt := 37) hx hb d_X_raised_24 (by decide) (fun hc24 => ?_) (fun hc24 => ?_)
      · skip
        rw [lg_cmp_eq] at hc24
        rw [pk_lEQ (a := e0 / 2 ^ i % 2) (b := 1) (by omega) (by omega)] at hc24
        refine lv_lload hx hb d_X_raised_37 (lv_at hl 2 rfl) ?_
        refine lv_lload hx hb d_X_raised_39 (lv_at hl 2 rfl) ?_
        refine lv_lmul hx hb d_X_raised_41 ?_
        refine wk_l (y := lN (y * y)) (lN_mul y y) ?_
        refine lv_lload hx hb d_X_raised_42 (lv_at hl 5 rfl) ?_
        refine lv_lrem hx hb d_X_raised_44 (lN_ne0 (by omega) (by omega)) ?_
        refine wk_l (y := lN (y * y % M)) (pk_lRem (rs_lt h3 h3 hM) (by omega) (by omega)) ?_
        refine lv_lstore (lv' := [(8, .long (lN (y * y % M))), (10, .int (nI i)), (6, .long (lN x)), (0, .long (lN b)), (2, .long (lN e0)), (4, .long (lN M))]) hx hb d_X_raised_45 hl (by decide) rfl (fun ls hl => ?_)
        refine lv_iinc (k := 1) (v := nI (i + 1)) (lv' := [(10, .int (nI (i + 1))), (8, .long (lN (y * y % M))), (6, .long (lN x)), (0, .long (lN b)), (2, .long (lN e0)), (4, .long (lN M))]) hx hb d_X_raised_47 hl rfl (ii_1 i) (by decide) rfl (fun ls hl => ?_)
        refine lv_goto (tgt := 9) hx hb d_X_raised_50 (by decide) ?_
        exact ih _ (by omega) (i + 1) x (y * y % M) ls (lv_sub hl [0, 2, 1, 3, 4, 5] rfl) (by omega) (by first | exact h2 | exact Nat.mod_lt _ (by omega)) (Nat.mod_lt _ (by omega)) (by first | (rw [rs_half, rs_odd hc24]; exact h4) | (rw [rs_half, rs_even (by omega)]; exact h4)) rfl
      · skip
        rw [lg_cmp_eq] at hc24
        rw [pk_lEQ (a := e0 / 2 ^ i % 2) (b := 1) (by omega) (by omega)] at hc24
        refine lv_lload hx hb d_X_raised_27 (lv_at hl 1 rfl) ?_
        refine lv_lload hx hb d_X_raised_29 (lv_at hl 2 rfl) ?_
        refine lv_lmul hx hb d_X_raised_31 ?_
        refine wk_l (y := lN (x * y)) (lN_mul x y) ?_
        refine lv_lload hx hb d_X_raised_32 (lv_at hl 5 rfl) ?_
        refine lv_lrem hx hb d_X_raised_34 (lN_ne0 (by omega) (by omega)) ?_
        refine wk_l (y := lN (x * y % M)) (pk_lRem (rs_lt h2 h3 hM) (by omega) (by omega)) ?_
        refine lv_lstore (lv' := [(6, .long (lN (x * y % M))), (10, .int (nI i)), (8, .long (lN y)), (0, .long (lN b)), (2, .long (lN e0)), (4, .long (lN M))]) hx hb d_X_raised_35 hl (by decide) rfl (fun ls hl => ?_)
        refine lv_lload hx hb d_X_raised_37 (lv_at hl 2 rfl) ?_
        refine lv_lload hx hb d_X_raised_39 (lv_at hl 2 rfl) ?_
        refine lv_lmul hx hb d_X_raised_41 ?_
        refine wk_l (y := lN (y * y)) (lN_mul y y) ?_
        refine lv_lload hx hb d_X_raised_42 (lv_at hl 5 rfl) ?_
        refine lv_lrem hx hb d_X_raised_44 (lN_ne0 (by omega) (by omega)) ?_
        refine wk_l (y := lN (y * y % M)) (pk_lRem (rs_lt h3 h3 hM) (by omega) (by omega)) ?_
        refine lv_lstore (lv' := [(8, .long (lN (y * y % M))), (6, .long (lN (x * y % M))), (10, .int (nI i)), (0, .long (lN b)), (2, .long (lN e0)), (4, .long (lN M))]) hx hb d_X_raised_45 hl (by decide) rfl (fun ls hl => ?_)
        refine lv_iinc (k := 2) (v := nI (i + 1)) (lv' := [(10, .int (nI (i + 1))), (8, .long (lN (y * y % M))), (6, .long (lN (x * y % M))), (0, .long (lN b)), (2, .long (lN e0)), (4, .long (lN M))]) hx hb d_X_raised_47 hl rfl (ii_1 i) (by decide) rfl (fun ls hl => ?_)
        refine lv_goto (tgt := 9) hx hb d_X_raised_50 (by decide) ?_
        exact ih _ (by omega) (i + 1) (x * y % M) (y * y % M) ls (lv_sub hl [0, 2, 1, 3, 4, 5] rfl) (by omega) (by first | exact h2 | exact Nat.mod_lt _ (by omega)) (Nat.mod_lt _ (by omega)) (by first | (rw [rs_half, rs_odd hc24]; exact h4) | (rw [rs_half, rs_even (by omega)]; exact h4)) rfl
end

set_option maxHeartbeats 4000000 in
set_option maxRecDepth 100000 in
theorem c_X_raised (l : Launch) (b e0 M : Nat) (he : e0 < 2 ^ 32) (hM : M ≤ 2750058481) (h1 : 1 < M) (hbM : b < M) : Met l y_X_raised w_X_raised ({ frames := 0, cells := 0, slots := 0, locals := 0 }) (va_Pc [.long (lN b), .long (lN e0), .long (lN M)] (fun _ => True)) (qL (lN (b ^ e0 % M))) 0 0 (fun _ => False) := by
  refine Met.ofW (cc := b_X_raised) (maxL := 11) (ret := some .long) (by decide) rfl ?_
  intro pg ev s mi args below meth co s₁ B hml hv
  obtain ⟨rfl, -⟩ := hv
  have hx := B.exec
  have hb := B.bytes
  have hr := B.returns
  have hts := atoms_spec (ws := w_X_raised) B.pre
  have hown : s.vm.findClass R_X = some mi.cls := findClass_of_methodNamed B.named
  have hlocks := B.notSynchronized
  have hS : va_S (fun _ => False) s.heap s.heap [] := va_S.rf
  have hl := lv_entry ([.long (lN b), .long (lN e0), .long (lN M)]) (n := 11) (Nat.le_of_ble_eq_true rfl)
  rw [lg_entry_eq]
  generalize (lg_sl ([.long (lN b), .long (lN e0), .long (lN M)]) ++ List.replicate (11 - (lg_sl ([.long (lN b), .long (lN e0), .long (lN M)])).length) Slot.unset).toArray = ls at hl ⊢
  have hl : lv_has ls 11 [(0, .long (lN b)), (2, .long (lN e0)), (4, .long (lN M))] := hl
  refine lv_lconst (v := lN 1) hx hb d_X_raised_0 rfl ?_
  refine lv_lstore (lv' := [(6, .long (lN 1)), (0, .long (lN b)), (2, .long (lN e0)), (4, .long (lN M))]) hx hb d_X_raised_1 hl (by decide) rfl (fun ls hl => ?_)
  refine lv_lload_n hx hb d_X_raised_3 rfl (lv_at hl 1 rfl) ?_
  refine lv_lstore (lv' := [(8, .long (lN b)), (6, .long (lN 1)), (0, .long (lN b)), (2, .long (lN e0)), (4, .long (lN M))]) hx hb d_X_raised_4 hl (by decide) rfl (fun ls hl => ?_)
  refine lv_iconst (v := nI 0) hx hb d_X_raised_6 (by decide) ?_
  refine lv_istore (lv' := [(10, .int (nI 0)), (8, .long (lN b)), (6, .long (lN 1)), (0, .long (lN b)), (2, .long (lN e0)), (4, .long (lN M))]) hx hb d_X_raised_7 hl (by decide) rfl (fun ls hl => ?_)
  refine lp_X_raised_9 hx hb he hM (fun i x y ls hl hq => ?_) _ 0 1 b ls (lv_sub hl [0, 2, 1, 3, 4, 5] rfl) (by omega) (by omega) (hbM) (by rw [Nat.pow_zero, Nat.div_one, Nat.one_mul]) rfl
  refine lv_lload hx hb d_X_raised_53 (lv_at hl 1 rfl) ?_
  exact pu_lret hx hb hr hS d_X_raised_55 hlocks (congrArg lN hq)

section
variable {pg : Program} {l : Launch} {ev : Env} {R : Room} {s : State} {mi : MethodId} {args : Array Value} {below : List Frame} {meth : Method} {co : Code} {H : Heap} {locs : List Loc} {cells slots : Nat} {Q : State → Prop}
set_option maxHeartbeats 4000000 in
set_option maxRecDepth 100000 in
theorem lp_M_raise_12 (hx : pg.tables.exec = Jvm.exec) (hb : co.code = b_M_raise) {w0 : Cond} (hts : ∀ w ∈ w0 :: al_w, w.before args s = true) (hown : s.vm.findClass R_M = some mi.cls) {b e0 M : Nat} (hM : M ≤ 2750058481) (k66 : ∀ (x : Nat) (y : Nat) (r : Nat) (ls : Array Slot), lv_has ls 12 [(6, .long (lN x)), (8, .long (lN y)), (10, .long (lN r)), (0, .long (lN b)), (2, .long (lN e0)), (4, .long (lN M))] → (x = b ^ e0 % M) → W pg l ev R s mi args below meth co H locs cells slots Q (F0 mi 66 ls [])) : ∀ (mz : Nat) (x : Nat) (y : Nat) (r : Nat) (ls : Array Slot), lv_has ls 12 [(6, .long (lN x)), (8, .long (lN y)), (10, .long (lN r)), (0, .long (lN b)), (2, .long (lN e0)), (4, .long (lN M))] → (r < 2 ^ 63) → (x < M) → (y < M) → (x * y ^ r % M = b ^ e0 % M) → r = mz → W pg l ev R s mi args below meth co H locs cells slots Q (F0 mi 12 ls []) := by
  intro mz
  induction mz using Nat.strongRecOn with
  | ind mz ih =>
    intro x y r ls hl h1 h2 h3 h4 hk
    subst hk
    refine lv_lload hx hb d_M_raise_12 (lv_at hl 2 rfl) ?_
    refine lv_lconst (v := lN 0) hx hb d_M_raise_14 rfl ?_
    refine W.lcmp hx hb d_M_raise_15 ?_
    refine lv_if_le (tgt := 66) hx hb d_M_raise_16 (by decide) (fun hc16 => ?_) (fun hc16 => ?_)
    · skip
      rw [lg_cmp_le] at hc16
      rw [pk_lLE (a := r) (b := 0) (by omega) (by omega)] at hc16
      exact k66 x y r ls (lv_sub hl [0, 1, 2, 3, 4, 5] rfl) (by have hr0 : r = 0 := (by omega); rw [hr0, Nat.pow_zero, Nat.mul_one, Nat.mod_eq_of_lt h2] at h4; exact h4)
    · skip
      rw [lg_cmp_le] at hc16
      rw [pk_lLE (a := r) (b := 0) (by omega) (by omega)] at hc16
      refine lv_lload hx hb d_M_raise_19 (lv_at hl 2 rfl) ?_
      refine lv_ldc2 (v := lN 2) hx hb hown (hts _ (al_m aw_t269)) d_M_raise_21 ?_
      refine lv_lrem hx hb d_M_raise_24 (lN_ne0 (by omega) (by omega)) ?_
      refine wk_l (y := lN (r % 2)) (pk_lRem (by omega) (by omega) (by omega)) ?_
      have hm24 := Nat.mod_le r 2
      refine lv_lconst (v := lN 1) hx hb d_M_raise_25 rfl ?_
      refine W.lcmp hx hb d_M_raise_26 ?_
      refine lv_if_ne (tgt := 41) hx hb d_M_raise_27 (by decide) (fun hc27 => ?_) (fun hc27 => ?_)
      · skip
        rw [lg_cmp_eq] at hc27
        rw [pk_lEQ (a := r % 2) (b := 1) (by omega) (by omega)] at hc27
        refine lv_lload hx hb d_M_raise_41 (lv_at hl 0 rfl) ?_
        refine lv_lstore (lv' := [(6, .long (lN x)), (8, .long (lN y)), (10, .long (lN r)), (0, .long (lN b)), (2, .long (lN e0)), (4, .long (lN M))]) hx hb d_M_raise_43 hl (by decide) rfl (fun ls hl => ?_)
        refine lv_lload hx hb d_M_raise_45 (lv_at hl 1 rfl) ?_
        refine lv_lload hx hb d_M_raise_47 (lv_at hl 1 rfl) ?_
        refine lv_lmul hx hb d_M_raise_49 ?_
        refine wk_l (y := lN (y * y)) (lN_mul y y) ?_
        refine lv_lload hx hb d_M_raise_50 (lv_at hl 5 rfl) ?_
        refine lv_lrem hx hb d_M_raise_52 (lN_ne0 (by omega) (by omega)) ?_
        refine wk_l (y := lN (y * y % M)) (pk_lRem (rs_lt h3 h3 hM) (by omega) (by omega)) ?_
        refine lv_lstore (lv' := [(8, .long (lN (y * y % M))), (6, .long (lN x)), (10, .long (lN r)), (0, .long (lN b)), (2, .long (lN e0)), (4, .long (lN M))]) hx hb d_M_raise_53 hl (by decide) rfl (fun ls hl => ?_)
        refine lv_lload hx hb d_M_raise_55 (lv_at hl 2 rfl) ?_
        refine lv_ldc2 (v := lN 2) hx hb hown (hts _ (al_m aw_t269)) d_M_raise_57 ?_
        refine lv_ldiv hx hb d_M_raise_60 (lN_ne0 (by omega) (by omega)) ?_
        refine wk_l (y := lN (r / 2)) (pk_lDiv (by omega) (by omega) (by omega)) ?_
        have hm60 := Nat.div_le_self r 2
        refine lv_lstore (lv' := [(10, .long (lN (r / 2))), (8, .long (lN (y * y % M))), (6, .long (lN x)), (0, .long (lN b)), (2, .long (lN e0)), (4, .long (lN M))]) hx hb d_M_raise_61 hl (by decide) rfl (fun ls hl => ?_)
        refine lv_goto (tgt := 12) hx hb d_M_raise_63 (by decide) ?_
        exact ih _ (by omega) x (y * y % M) (r / 2) ls (lv_sub hl [2, 1, 0, 3, 4, 5] rfl) (by omega) (by first | exact h2 | exact Nat.mod_lt _ (by omega)) (Nat.mod_lt _ (by omega)) (by first | (rw [rs_odd hc27]; exact h4) | (rw [rs_even (by omega)]; exact h4)) rfl
      · skip
        rw [lg_cmp_eq] at hc27
        rw [pk_lEQ (a := r % 2) (b := 1) (by omega) (by omega)] at hc27
        refine lv_lload hx hb d_M_raise_30 (lv_at hl 0 rfl) ?_
        refine lv_lload hx hb d_M_raise_32 (lv_at hl 1 rfl) ?_
        refine lv_lmul hx hb d_M_raise_34 ?_
        refine wk_l (y := lN (x * y)) (lN_mul x y) ?_
        refine lv_lload hx hb d_M_raise_35 (lv_at hl 5 rfl) ?_
        refine lv_lrem hx hb d_M_raise_37 (lN_ne0 (by omega) (by omega)) ?_
        refine wk_l (y := lN (x * y % M)) (pk_lRem (rs_lt h2 h3 hM) (by omega) (by omega)) ?_
        refine lv_goto (tgt := 43) hx hb d_M_raise_38 (by decide) ?_
        refine lv_lstore (lv' := [(6, .long (lN (x * y % M))), (8, .long (lN y)), (10, .long (lN r)), (0, .long (lN b)), (2, .long (lN e0)), (4, .long (lN M))]) hx hb d_M_raise_43 hl (by decide) rfl (fun ls hl => ?_)
        refine lv_lload hx hb d_M_raise_45 (lv_at hl 1 rfl) ?_
        refine lv_lload hx hb d_M_raise_47 (lv_at hl 1 rfl) ?_
        refine lv_lmul hx hb d_M_raise_49 ?_
        refine wk_l (y := lN (y * y)) (lN_mul y y) ?_
        refine lv_lload hx hb d_M_raise_50 (lv_at hl 5 rfl) ?_
        refine lv_lrem hx hb d_M_raise_52 (lN_ne0 (by omega) (by omega)) ?_
        refine wk_l (y := lN (y * y % M)) (pk_lRem (rs_lt h3 h3 hM) (by omega) (by omega)) ?_
        refine lv_lstore (lv' := [(8, .long (lN (y * y % M))), (6, .long (lN (x * y % M))), (10, .long (lN r)), (0, .long (lN b)), (2, .long (lN e0)), (4, .long (lN M))]) hx hb d_M_raise_53 hl (by decide) rfl (fun ls hl => ?_)
        refine lv_lload hx hb d_M_raise_55 (lv_at hl 2 rfl) ?_
        refine lv_ldc2 (v := lN 2) hx hb hown (hts _ (al_m aw_t269)) d_M_raise_57 ?_
        refine lv_ldiv hx hb d_M_raise_60 (lN_ne0 (by omega) (by omega)) ?_
        refine wk_l (y := lN (r / 2)) (pk_lDiv (by omega) (by omega) (by omega)) ?_
        have hm60 := Nat.div_le_self r 2
        refine lv_lstore (lv' := [(10, .long (lN (r / 2))), (8, .long (lN (y * y % M))), (6, .long (lN (x * y % M))), (0, .long (lN b)), (2, .long (lN e0)), (4, .long (lN M))]) hx hb d_M_raise_61 hl (by decide) rfl (fun ls hl => ?_)
        refine lv_goto (tgt := 12) hx hb d_M_raise_63 (by decide) ?_
        exact ih _ (by omega) (x * y % M) (y * y % M) (r / 2) ls (lv_sub hl [2, 1, 0, 3, 4, 5] rfl) (by omega) (by first | exact h2 | exact Nat.mod_lt _ (by omega)) (Nat.mod_lt _ (by omega)) (by first | (rw [rs_odd hc27]; exact h4) | (rw [rs_even (by omega)]; exact h4)) rfl
end

set_option maxHeartbeats 4000000 in
set_option maxRecDepth 100000 in
theorem c_M_raise (l : Launch) (b e0 M : Nat) (he : e0 < 2 ^ 63) (hM : M ≤ 2750058481) (h1 : 1 < M) (hbM : b < 2 ^ 63) : Met l y_M_raise w_M_raise ({ frames := 0, cells := 0, slots := 0, locals := 0 }) (va_Pc [.long (lN b), .long (lN e0), .long (lN M)] (fun _ => True)) (qL (lN (b ^ e0 % M))) 0 0 (fun _ => False) := by
  refine Met.ofW (cc := b_M_raise) (maxL := 12) (ret := some .long) (by decide) rfl ?_
  intro pg ev s mi args below meth co s₁ B hml hv
  obtain ⟨rfl, -⟩ := hv
  have hx := B.exec
  have hb := B.bytes
  have hr := B.returns
  have hts := atoms_spec (ws := w_M_raise) B.pre
  have hown : s.vm.findClass R_M = some mi.cls := findClass_of_methodNamed B.named
  have hlocks := B.notSynchronized
  have hS : va_S (fun _ => False) s.heap s.heap [] := va_S.rf
  have hl := lv_entry ([.long (lN b), .long (lN e0), .long (lN M)]) (n := 12) (Nat.le_of_ble_eq_true rfl)
  rw [lg_entry_eq]
  generalize (lg_sl ([.long (lN b), .long (lN e0), .long (lN M)]) ++ List.replicate (12 - (lg_sl ([.long (lN b), .long (lN e0), .long (lN M)])).length) Slot.unset).toArray = ls at hl ⊢
  have hl : lv_has ls 12 [(0, .long (lN b)), (2, .long (lN e0)), (4, .long (lN M))] := hl
  refine lv_lconst (v := lN 1) hx hb d_M_raise_0 rfl ?_
  refine lv_lstore (lv' := [(6, .long (lN 1)), (0, .long (lN b)), (2, .long (lN e0)), (4, .long (lN M))]) hx hb d_M_raise_1 hl (by decide) rfl (fun ls hl => ?_)
  refine lv_lload_n hx hb d_M_raise_3 rfl (lv_at hl 1 rfl) ?_
  refine lv_lload hx hb d_M_raise_4 (lv_at hl 3 rfl) ?_
  refine lv_lrem hx hb d_M_raise_6 (lN_ne0 (by omega) (by omega)) ?_
  refine wk_l (y := lN (b % M)) (pk_lRem (by omega) (by omega) (by omega)) ?_
  have hm6 := Nat.mod_le b M
  refine lv_lstore (lv' := [(8, .long (lN (b % M))), (6, .long (lN 1)), (0, .long (lN b)), (2, .long (lN e0)), (4, .long (lN M))]) hx hb d_M_raise_7 hl (by decide) rfl (fun ls hl => ?_)
  refine lv_lload_n hx hb d_M_raise_9 rfl (lv_at hl 3 rfl) ?_
  refine lv_lstore (lv' := [(10, .long (lN e0)), (8, .long (lN (b % M))), (6, .long (lN 1)), (0, .long (lN b)), (2, .long (lN e0)), (4, .long (lN M))]) hx hb d_M_raise_10 hl (by decide) rfl (fun ls hl => ?_)
  refine lp_M_raise_12 hx hb hts hown hM (fun x y r ls hl hq => ?_) _ 1 (b % M) e0 ls (lv_sub hl [2, 1, 0, 3, 4, 5] rfl) (he) (by omega) (Nat.mod_lt _ (by omega)) (by rw [Nat.one_mul, ← Nat.pow_mod]) rfl
  refine lv_lload hx hb d_M_raise_66 (lv_at hl 0 rfl) ?_
  exact pu_lret hx hb hr hS d_M_raise_68 hlocks (congrArg lN hq)

section
variable {pg : Program} {l : Launch} {ev : Env} {R : Room} {s : State} {mi : MethodId} {args : Array Value} {below : List Frame} {meth : Method} {co : Code} {H : Heap} {locs : List Loc} {cells slots : Nat} {Q : State → Prop}
set_option maxHeartbeats 4000000 in
set_option maxRecDepth 100000 in
theorem lp_M_factor_6 (hx : pg.tables.exec = Jvm.exec) (hb : co.code = b_M_factor) {G : Nat} (k31 : ∀ (x : Nat) (y : Nat) (ls : Array Slot), lv_has ls 10 [(4, .long (lN x)), (6, .long (lN y))] → (x = G) → W pg l ev R s mi args below meth co H locs cells slots Q (F0 mi 31 ls [])) : ∀ (mz : Nat) (x : Nat) (y : Nat) (ls : Array Slot), lv_has ls 10 [(4, .long (lN x)), (6, .long (lN y))] → (x < 2 ^ 63) → (y < 2 ^ 63) → (Nat.gcd x y = G) → y = mz → W pg l ev R s mi args below meth co H locs cells slots Q (F0 mi 6 ls []) := by
  intro mz
  induction mz using Nat.strongRecOn with
  | ind mz ih =>
    intro x y ls hl h1 h2 h3 hk
    subst hk
    refine lv_lload hx hb d_M_factor_6 (lv_at hl 1 rfl) ?_
    refine lv_lconst (v := lN 0) hx hb d_M_factor_8 rfl ?_
    refine W.lcmp hx hb d_M_factor_9 ?_
    refine lv_if_eq (tgt := 31) hx hb d_M_factor_10 (by decide) (fun hc10 => ?_) (fun hc10 => ?_)
    · skip
      rw [lg_cmp_eq] at hc10
      rw [pk_lEQ (a := y) (b := 0) (by omega) (by omega)] at hc10
      exact k31 x y ls (lv_sub hl [0, 1] rfl) (by rw [hc10, Nat.gcd_zero_right] at h3; exact h3)
    · skip
      rw [lg_cmp_eq] at hc10
      rw [pk_lEQ (a := y) (b := 0) (by omega) (by omega)] at hc10
      refine lv_lload hx hb d_M_factor_13 (lv_at hl 0 rfl) ?_
      refine lv_lload hx hb d_M_factor_15 (lv_at hl 1 rfl) ?_
      refine lv_lrem hx hb d_M_factor_17 (lN_ne0 (by omega) (by omega)) ?_
      refine wk_l (y := lN (x % y)) (pk_lRem (by omega) (by omega) (by omega)) ?_
      have hm17 := Nat.mod_le x y
      refine lv_lstore (lv' := [(8, .long (lN (x % y))), (4, .long (lN x)), (6, .long (lN y))]) hx hb d_M_factor_18 hl (by decide) rfl (fun ls hl => ?_)
      refine lv_lload hx hb d_M_factor_20 (lv_at hl 2 rfl) ?_
      refine lv_lstore (lv' := [(4, .long (lN y)), (8, .long (lN (x % y))), (6, .long (lN y))]) hx hb d_M_factor_22 hl (by decide) rfl (fun ls hl => ?_)
      refine lv_lload hx hb d_M_factor_24 (lv_at hl 1 rfl) ?_
      refine lv_lstore (lv' := [(6, .long (lN (x % y))), (4, .long (lN y)), (8, .long (lN (x % y)))]) hx hb d_M_factor_26 hl (by decide) rfl (fun ls hl => ?_)
      refine lv_goto (tgt := 6) hx hb d_M_factor_28 (by decide) ?_
      exact ih _ (Nat.mod_lt _ (by omega)) y (x % y) ls (lv_sub hl [1, 0] rfl) (h2) (Nat.lt_trans (Nat.mod_lt _ (by omega)) h2) (by rw [Nat.gcd_comm, ← Nat.gcd_rec, Nat.gcd_comm]; exact h3) rfl
end

set_option maxHeartbeats 4000000 in
set_option maxRecDepth 100000 in
theorem c_M_factor (l : Launch) (a0 b0 : Nat) (ha : a0 < 2 ^ 63) (hb0 : b0 < 2 ^ 63) : Met l y_M_factor w_M_factor ({ frames := 0, cells := 0, slots := 0, locals := 0 }) (va_Pc [.long (lN a0), .long (lN b0)] (fun _ => True)) (qL (lN (Nat.gcd a0 b0))) 0 0 (fun _ => False) := by
  refine Met.ofW (cc := b_M_factor) (maxL := 10) (ret := some .long) (by decide) rfl ?_
  intro pg ev s mi args below meth co s₁ B hml hv
  obtain ⟨rfl, -⟩ := hv
  have hx := B.exec
  have hb := B.bytes
  have hr := B.returns
  have hts := atoms_spec (ws := w_M_factor) B.pre
  have hown : s.vm.findClass R_M = some mi.cls := findClass_of_methodNamed B.named
  have hlocks := B.notSynchronized
  have hS : va_S (fun _ => False) s.heap s.heap [] := va_S.rf
  have hl := lv_entry ([.long (lN a0), .long (lN b0)]) (n := 10) (Nat.le_of_ble_eq_true rfl)
  rw [lg_entry_eq]
  generalize (lg_sl ([.long (lN a0), .long (lN b0)]) ++ List.replicate (10 - (lg_sl ([.long (lN a0), .long (lN b0)])).length) Slot.unset).toArray = ls at hl ⊢
  have hl : lv_has ls 10 [(0, .long (lN a0)), (2, .long (lN b0))] := hl
  refine lv_lload_n hx hb d_M_factor_0 rfl (lv_at hl 0 rfl) ?_
  refine lv_lstore (lv' := [(4, .long (lN a0)), (0, .long (lN a0)), (2, .long (lN b0))]) hx hb d_M_factor_1 hl (by decide) rfl (fun ls hl => ?_)
  refine lv_lload_n hx hb d_M_factor_3 rfl (lv_at hl 2 rfl) ?_
  refine lv_lstore (lv' := [(6, .long (lN b0)), (4, .long (lN a0)), (0, .long (lN a0)), (2, .long (lN b0))]) hx hb d_M_factor_4 hl (by decide) rfl (fun ls hl => ?_)
  refine lp_M_factor_6 hx hb  (fun x y ls hl hq => ?_) _ a0 b0 ls (lv_sub hl [1, 0] rfl) (ha) (hb0) (rfl) rfl
  refine lv_lload hx hb d_M_factor_31 (lv_at hl 0 rfl) ?_
  exact pu_lret hx hb hr hS d_M_factor_33 hlocks (congrArg lN hq)

set_option maxHeartbeats 4000000 in
set_option maxRecDepth 100000 in
theorem c_J_floorMod (l : Launch) (x : Int64) (d : Nat) (h0 : 0 < d) (hd : d < 2 ^ 62) : Met l y_J_floorMod w_J_floorMod ({ frames := 0, cells := 0, slots := 0, locals := 0 }) (va_Pc [.long x, .long (lN d)] (fun _ => True)) (qL (lN (x.toInt % (d : Int)).toNat)) 0 0 (fun _ => False) := by
  refine va_MetF (cc := b_J_floorMod) (maxL := 6) (ret := some .long) (by decide +kernel) rfl ?_
  intro pg ev s mi args below meth co s₁ B hml hv
  obtain ⟨rfl, -⟩ := hv
  have hx := B.exec
  have hb := B.bytes
  have hr := B.returns
  have hts := atoms_spec (ws := w_J_floorMod) B.pre
  have hown : s.vm.findClass R_J = some mi.cls := findClass_of_methodNamed B.named
  have hlocks := B.notSynchronized
  have hS : va_S (fun _ => False) s.heap s.heap [] := va_S.rf
  have hl := lv_entry ([.long x, .long (lN d)]) (n := 6) (Nat.le_of_ble_eq_true rfl)
  rw [lg_entry_eq]
  generalize (lg_sl ([.long x, .long (lN d)]) ++ List.replicate (6 - (lg_sl ([.long x, .long (lN d)])).length) Slot.unset).toArray = ls at hl ⊢
  have hl : lv_has ls 6 [(0, .long x), (2, .long (lN d))] := hl
  refine lv_lload_n hx hb d_J_floorMod_0 rfl (lv_at hl 0 rfl) ?_
  refine lv_lload_n hx hb d_J_floorMod_1 rfl (lv_at hl 1 rfl) ?_
  refine lv_lrem hx hb d_J_floorMod_2 (lN_ne0 (by omega) (by omega)) ?_
  refine lv_lstore (lv' := [(4, .long (x - x / (lN d) * (lN d))), (0, .long x), (2, .long (lN d))]) hx hb d_J_floorMod_3 hl (by decide) rfl (fun ls hl => ?_)
  refine lv_lload_n hx hb d_J_floorMod_5 rfl (lv_at hl 1 rfl) ?_
  refine lv_lload_n hx hb d_J_floorMod_6 rfl (lv_at hl 2 rfl) ?_
  refine lv_lxor hx hb d_J_floorMod_7 ?_
  refine lv_lconst (v := lN 0) hx hb d_J_floorMod_8 rfl ?_
  refine W.lcmp hx hb d_J_floorMod_9 ?_
  refine lv_if_ge (tgt := 25) hx hb d_J_floorMod_10 (by decide) (fun hc10 => ?_) (fun hc10 => ?_)
  · skip
    rw [lg_cmp_ge] at hc10
    rw [lx_le (x := x ^^^ (lN d)) (n := 0) (by omega)] at hc10
    refine lv_lload hx hb d_J_floorMod_25 (lv_at hl 0 rfl) ?_
    exact pu_lret hx hb hr hS d_J_floorMod_27 hlocks (fm_pos h0 hd (fm_ge h0 hd hc10))
  · skip
    rw [lg_cmp_ge] at hc10
    rw [lx_le (x := x ^^^ (lN d)) (n := 0) (by omega)] at hc10
    refine lv_lload hx hb d_J_floorMod_13 (lv_at hl 0 rfl) ?_
    refine lv_lconst (v := lN 0) hx hb d_J_floorMod_15 rfl ?_
    refine W.lcmp hx hb d_J_floorMod_16 ?_
    refine lv_if_eq (tgt := 25) hx hb d_J_floorMod_17 (by decide) (fun hc17 => ?_) (fun hc17 => ?_)
    · skip
      rw [lg_cmp_eq] at hc17
      rw [lx_eq (x := x - x / (lN d) * (lN d)) (n := 0) (by omega)] at hc17
      refine lv_lload hx hb d_J_floorMod_25 (lv_at hl 0 rfl) ?_
      exact pu_lret hx hb hr hS d_J_floorMod_27 hlocks (fm_pos h0 hd (fm_z hc17))
    · skip
      rw [lg_cmp_eq] at hc17
      rw [lx_eq (x := x - x / (lN d) * (lN d)) (n := 0) (by omega)] at hc17
      refine lv_lload hx hb d_J_floorMod_20 (lv_at hl 0 rfl) ?_
      refine lv_lload_n hx hb d_J_floorMod_22 rfl (lv_at hl 2 rfl) ?_
      refine lv_ladd hx hb d_J_floorMod_23 ?_
      refine wk_l (y := lN ((x.toInt % (d : Int)).toNat)) (fm_neg h0 hd (fm_sgn h0 hd hc10 hc17)) ?_
      exact pu_lret hx hb hr hS d_J_floorMod_24 hlocks (rfl)
