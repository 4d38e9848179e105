section
variable {pg : Program} {l : Launch} {ev : Env} {R : Room} {s : State} {mi : MethodId} {args : Array Value} {below : List Frame} {meth : Method} {co : Code} {H : Heap} {locs : List Loc} {cells slots : Nat} {Q : State → Prop}
set_option maxHeartbeats 4000000 in
set_option maxRecDepth 100000 in
theorem lp_X_isKeyPrime_16 (hx : pg.tables.exec = Jvm.exec) (hb : co.code = b_X_isKeyPrime) {n : Nat} (hn3 : 3 ≤ n) (hn : n ≤ 229) (k35 : ∀ (d : Nat) (ls : Array Slot), lv_has ls 2 [(1, .int (nI d)), (0, .int (nI n))] → (ma_isP n = true) → W pg l ev R s mi args below meth co H locs cells slots Q (F0 mi 35 ls [])) (k27 : ∀ (d : Nat) (ls : Array Slot), lv_has ls 2 [(1, .int (nI d)), (0, .int (nI n))] → (ma_isP n = false) → W pg l ev R s mi args below meth co H locs cells slots Q (F0 mi 27 ls [])) : ∀ (mz : Nat) (d : Nat) (ls : Array Slot), lv_has ls 2 [(1, .int (nI d)), (0, .int (nI n))] → (2 ≤ d) → (d ≤ n) → (∀ j, 2 ≤ j → j < d → n % j ≠ 0) → n - d = mz → W pg l ev R s mi args below meth co H locs cells slots Q (F0 mi 16 ls []) := by
  intro mz
  induction mz using Nat.strongRecOn with
  | ind mz ih =>
    intro d ls hl h1 h2 h3 hk
    subst hk
    refine lv_iload_n hx hb d_X_isKeyPrime_16 rfl (lv_at hl 0 rfl) ?_
    refine lv_iload_n hx hb d_X_isKeyPrime_17 rfl (lv_at hl 1 rfl) ?_
    refine lv_icmp_ge (tgt := 35) hx hb d_X_isKeyPrime_18 (by decide) (fun hc18 => ?_) (fun hc18 => ?_)
    · skip
      rw [nI_leI (a := n) (b := d) (by omega) (by omega)] at hc18
      exact k35 d ls (lv_sub hl [0, 1] rfl) (ma_isP_of ⟨hn3, hn, fun j ha hb2 => h3 j ha (by omega)⟩)
    · skip
      rw [nI_leI (a := n) (b := d) (by omega) (by omega)] at hc18
      refine lv_iload_n hx hb d_X_isKeyPrime_21 rfl (lv_at hl 1 rfl) ?_
      refine lv_iload_n hx hb d_X_isKeyPrime_22 rfl (lv_at hl 0 rfl) ?_
      refine lv_irem hx hb d_X_isKeyPrime_23 (nI_ne0 (by omega) (by omega)) ?_
      refine wk_i (y := nI (n % d)) (pk_rem (by omega) (by omega) (by omega)) ?_
      have hm23 := Nat.mod_le n d
      refine lv_if_ne (tgt := 29) hx hb d_X_isKeyPrime_24 (by decide) (fun hc24 => ?_) (fun hc24 => ?_)
      · skip
        rw [← nI_0] at hc24
        rw [nI_eq (a := n % d) (b := 0) (by omega) (by omega)] at hc24
        refine lv_iinc (k := 0) (v := nI (d + 1)) (lv' := [(1, .int (nI (d + 1))), (0, .int (nI n))]) hx hb d_X_isKeyPrime_29 hl rfl (ii_1 d) (by decide) rfl (fun ls hl => ?_)
        refine lv_goto (tgt := 16) hx hb d_X_isKeyPrime_32 (by decide) ?_
        exact ih _ (by omega) (d + 1) ls (lv_sub hl [0, 1] rfl) (by omega) (by omega) (ip_s h3 hc24) rfl
      · skip
        rw [← nI_0] at hc24
        rw [nI_eq (a := n % d) (b := 0) (by omega) (by omega)] at hc24
        exact k27 d ls (lv_sub hl [0, 1] rfl) (ip_f h1 (by omega) hc24)
end

set_option maxHeartbeats 4000000 in
set_option maxRecDepth 100000 in
theorem c_X_isKeyPrime (l : Launch) (x : Int32)  : Met l y_X_isKeyPrime w_X_isKeyPrime ({ frames := 0, cells := 0, slots := 0, locals := 0 }) (va_Pc [.int x] (fun _ => True)) (qI (bI (sp_isP x))) 0 0 (fun _ => False) := by
  refine Met.ofW (cc := b_X_isKeyPrime) (maxL := 2) (ret := some .boolean) (by decide) rfl ?_
  intro pg ev s mi args below meth co s₁ B hml hv
  obtain ⟨rfl, -⟩ := hv
  have hx := B.exec
  have hb := B.bytes
  have hr := B.returns
  have hts := atoms_spec (ws := w_X_isKeyPrime) B.pre
  have hown : s.vm.findClass R_X = some mi.cls := findClass_of_methodNamed B.named
  have hlocks := B.notSynchronized
  have hS : va_S (fun _ => False) s.heap s.heap [] := va_S.rf
  have hl := lv_entry ([.int x]) (n := 2) (Nat.le_of_ble_eq_true rfl)
  rw [lg_entry_eq]
  generalize (lg_sl ([.int x]) ++ List.replicate (2 - (lg_sl ([.int x])).length) Slot.unset).toArray = ls at hl ⊢
  have hl : lv_has ls 2 [(0, .int x)] := hl
  refine lv_iload_n hx hb d_X_isKeyPrime_0 rfl (lv_at hl 0 rfl) ?_
  refine lv_iconst (v := nI 3) hx hb d_X_isKeyPrime_1 (by decide) ?_
  refine lv_icmp_lt (tgt := 12) hx hb d_X_isKeyPrime_2 (by decide) (fun hc2 => ?_) (fun hc2 => ?_)
  · skip
    rw [ix_lt (x := x) (n := 3) (by omega)] at hc2
    refine lv_iconst (v := nI 0) hx hb d_X_isKeyPrime_12 (by decide) ?_
    exact pu_zret hx hb hr (by decide) hS d_X_isKeyPrime_13 hlocks ((bI_f (by simp only [sp_isP, Bool.and_eq_false_iff, decide_eq_false_iff_not]; omega)).symm)
  · skip
    rw [ix_lt (x := x) (n := 3) (by omega)] at hc2
    refine lv_iload_n hx hb d_X_isKeyPrime_5 rfl (lv_at hl 0 rfl) ?_
    refine lv_sipush (v := nI 229) hx hb d_X_isKeyPrime_6 (by decide) ?_
    refine lv_icmp_le (tgt := 14) hx hb d_X_isKeyPrime_9 (by decide) (fun hc9 => ?_) (fun hc9 => ?_)
    · skip
      rw [ix_ge (x := x) (n := 229) (by omega)] at hc9
      obtain ⟨n, hn, rfl⟩ := ix_of (x := x) (by omega)
      rw [nI_toInt hn] at hc2 hc9
      refine lv_iconst (v := nI 2) hx hb d_X_isKeyPrime_14 (by decide) ?_
      refine lv_istore_n (lv' := [(1, .int (nI 2)), (0, .int (nI n))]) hx hb d_X_isKeyPrime_15 rfl hl (by decide) rfl (fun ls hl => ?_)
      refine lp_X_isKeyPrime_16 hx hb (by omega) (by omega) (fun d ls hl hq => ?_) (fun d ls hl hq => ?_) _ 2 ls (lv_sub hl [0, 1] rfl) (by omega) (by omega) (fun j ha hb2 => absurd ha (by omega)) rfl
      · skip
        refine lv_iconst (v := nI 1) hx hb d_X_isKeyPrime_35 (by decide) ?_
        exact pu_zret hx hb hr (by decide) hS d_X_isKeyPrime_36 hlocks (by rw [ip_n (by omega) (by omega), hq]; decide)
      · skip
        refine lv_iconst (v := nI 0) hx hb d_X_isKeyPrime_27 (by decide) ?_
        exact pu_zret hx hb hr (by decide) hS d_X_isKeyPrime_28 hlocks (by rw [ip_n (by omega) (by omega), hq]; decide)
    · skip
      rw [ix_ge (x := x) (n := 229) (by omega)] at hc9
      refine lv_iconst (v := nI 0) hx hb d_X_isKeyPrime_12 (by decide) ?_
      exact pu_zret hx hb hr (by decide) hS d_X_isKeyPrime_13 hlocks ((bI_f (by simp only [sp_isP, Bool.and_eq_false_iff, decide_eq_false_iff_not]; omega)).symm)

section
variable {pg : Program} {l : Launch} {ev : Env} {R : Room} {s : State} {mi : MethodId} {args : Array Value} {below : List Frame} {meth : Method} {co : Code} {H : Heap} {locs : List Loc} {cells slots : Nat} {Q : State → Prop}
set_option maxHeartbeats 4000000 in
set_option maxRecDepth 100000 in
theorem lp_M_prime_18 (hx : pg.tables.exec = Jvm.exec) (hb : co.code = b_M_prime) {n : Nat} (hn3 : 3 ≤ n) (hn : n ≤ 229) (k43 : ∀ (v : Nat) (d : Nat) (ls : Array Slot), lv_has ls 3 [(1, .int (nI v)), (2, .int (nI d)), (0, .int (nI n))] → (v = sp_dv n n) → (v ≤ n) → W pg l ev R s mi args below meth co H locs cells slots Q (F0 mi 43 ls [])) : ∀ (mz : Nat) (v : Nat) (d : Nat) (ls : Array Slot), lv_has ls 3 [(1, .int (nI v)), (2, .int (nI d)), (0, .int (nI n))] → (1 ≤ d) → (d ≤ n + 1) → (v = sp_dv n (d - 1)) → (v < d) → n + 1 - d = mz → W pg l ev R s mi args below meth co H locs cells slots Q (F0 mi 18 ls []) := by
  intro mz
  induction mz using Nat.strongRecOn with
  | ind mz ih =>
    intro v d ls hl h1 h2 h3 h4 hk
    subst hk
    refine lv_iload_n hx hb d_M_prime_18 rfl (lv_at hl 1 rfl) ?_
    refine lv_iload_n hx hb d_M_prime_19 rfl (lv_at hl 2 rfl) ?_
    refine lv_icmp_gt (tgt := 43) hx hb d_M_prime_20 (by decide) (fun hc20 => ?_) (fun hc20 => ?_)
    · skip
      rw [nI_ltI (a := n) (b := d) (by omega) (by omega)] at hc20
      exact k43 v d ls (lv_sub hl [0, 1, 2] rfl) (by have e : d - 1 = n := (by omega); rw [e] at h3; exact h3) (by omega)
    · skip
      rw [nI_ltI (a := n) (b := d) (by omega) (by omega)] at hc20
      refine lv_iload_n hx hb d_M_prime_23 rfl (lv_at hl 0 rfl) ?_
      refine lv_iload_n hx hb d_M_prime_24 rfl (lv_at hl 2 rfl) ?_
      refine lv_iload_n hx hb d_M_prime_25 rfl (lv_at hl 1 rfl) ?_
      refine lv_irem hx hb d_M_prime_26 (nI_ne0 (by omega) (by omega)) ?_
      refine wk_i (y := nI (n % d)) (pk_rem (by omega) (by omega) (by omega)) ?_
      have hm26 := Nat.mod_le n d
      refine lv_if_ne (tgt := 34) hx hb d_M_prime_27 (by decide) (fun hc27 => ?_) (fun hc27 => ?_)
      · skip
        rw [← nI_0] at hc27
        rw [nI_eq (a := n % d) (b := 0) (by omega) (by omega)] at hc27
        refine lv_iconst (v := nI 0) hx hb d_M_prime_34 (by decide) ?_
        refine lv_iadd hx hb d_M_prime_35 ?_
        refine wk_i (y := nI (v + 0)) (nI_add v 0) ?_
        refine lv_istore_n (lv' := [(1, .int (nI (v + 0))), (2, .int (nI d)), (0, .int (nI n))]) hx hb d_M_prime_36 rfl hl (by decide) rfl (fun ls hl => ?_)
        refine lv_iinc (k := 1) (v := nI (d + 1)) (lv' := [(2, .int (nI (d + 1))), (1, .int (nI (v + 0))), (0, .int (nI n))]) hx hb d_M_prime_37 hl rfl (ii_1 d) (by decide) rfl (fun ls hl => ?_)
        refine lv_goto (tgt := 18) hx hb d_M_prime_40 (by decide) ?_
        exact ih _ (by omega) (v + 0) (d + 1) ls (lv_sub hl [1, 0, 2] rfl) (by omega) (by omega) (by first | (rw [Nat.add_sub_cancel, dv_step h1, if_pos hc27, ← h3]; done) | (rw [Nat.add_sub_cancel, dv_step h1, if_neg hc27, ← h3]; done)) (by omega) rfl
      · skip
        rw [← nI_0] at hc27
        rw [nI_eq (a := n % d) (b := 0) (by omega) (by omega)] at hc27
        refine lv_iconst (v := nI 1) hx hb d_M_prime_30 (by decide) ?_
        refine lv_goto (tgt := 35) hx hb d_M_prime_31 (by decide) ?_
        refine lv_iadd hx hb d_M_prime_35 ?_
        refine wk_i (y := nI (v + 1)) (nI_add v 1) ?_
        refine lv_istore_n (lv' := [(1, .int (nI (v + 1))), (2, .int (nI d)), (0, .int (nI n))]) hx hb d_M_prime_36 rfl hl (by decide) rfl (fun ls hl => ?_)
        refine lv_iinc (k := 1) (v := nI (d + 1)) (lv' := [(2, .int (nI (d + 1))), (1, .int (nI (v + 1))), (0, .int (nI n))]) hx hb d_M_prime_37 hl rfl (ii_1 d) (by decide) rfl (fun ls hl => ?_)
        refine lv_goto (tgt := 18) hx hb d_M_prime_40 (by decide) ?_
        exact ih _ (by omega) (v + 1) (d + 1) ls (lv_sub hl [1, 0, 2] rfl) (by omega) (by omega) (by first | (rw [Nat.add_sub_cancel, dv_step h1, if_pos hc27, ← h3]; done) | (rw [Nat.add_sub_cancel, dv_step h1, if_neg hc27, ← h3]; done)) (by omega) rfl
end

set_option maxHeartbeats 4000000 in
set_option maxRecDepth 100000 in
theorem c_M_prime (l : Launch) (x : Int32)  : Met l y_M_prime w_M_prime ({ frames := 0, cells := 0, slots := 0, locals := 0 }) (va_Pc [.int x] (fun _ => True)) (qI (bI (sp_isP x))) 0 0 (fun _ => False) := by
  refine Met.ofW (cc := b_M_prime) (maxL := 3) (ret := some .boolean) (by decide) rfl ?_
  intro pg ev s mi args below meth co s₁ B hml hv
  obtain ⟨rfl, -⟩ := hv
  have hx := B.exec
  have hb := B.bytes
  have hr := B.returns
  have hts := atoms_spec (ws := w_M_prime) B.pre
  have hown : s.vm.findClass R_M = some mi.cls := findClass_of_methodNamed B.named
  have hlocks := B.notSynchronized
  have hS : va_S (fun _ => False) s.heap s.heap [] := va_S.rf
  have hl := lv_entry ([.int x]) (n := 3) (Nat.le_of_ble_eq_true rfl)
  rw [lg_entry_eq]
  generalize (lg_sl ([.int x]) ++ List.replicate (3 - (lg_sl ([.int x])).length) Slot.unset).toArray = ls at hl ⊢
  have hl : lv_has ls 3 [(0, .int x)] := hl
  refine lv_iload_n hx hb d_M_prime_0 rfl (lv_at hl 0 rfl) ?_
  refine lv_iconst (v := nI 3) hx hb d_M_prime_1 (by decide) ?_
  refine lv_icmp_lt (tgt := 12) hx hb d_M_prime_2 (by decide) (fun hc2 => ?_) (fun hc2 => ?_)
  · skip
    rw [ix_lt (x := x) (n := 3) (by omega)] at hc2
    refine lv_iconst (v := nI 0) hx hb d_M_prime_12 (by decide) ?_
    exact pu_zret hx hb hr (by decide) hS d_M_prime_13 hlocks ((bI_f (by simp only [sp_isP, Bool.and_eq_false_iff, decide_eq_false_iff_not]; omega)).symm)
  · skip
    rw [ix_lt (x := x) (n := 3) (by omega)] at hc2
    refine lv_iload_n hx hb d_M_prime_5 rfl (lv_at hl 0 rfl) ?_
    refine lv_sipush (v := nI 229) hx hb d_M_prime_6 (by decide) ?_
    refine lv_icmp_le (tgt := 14) hx hb d_M_prime_9 (by decide) (fun hc9 => ?_) (fun hc9 => ?_)
    · skip
      rw [ix_ge (x := x) (n := 229) (by omega)] at hc9
      obtain ⟨n, hn, rfl⟩ := ix_of (x := x) (by omega)
      rw [nI_toInt hn] at hc2 hc9
      refine lv_iconst (v := nI 0) hx hb d_M_prime_14 (by decide) ?_
      refine lv_istore_n (lv' := [(1, .int (nI 0)), (0, .int (nI n))]) hx hb d_M_prime_15 rfl hl (by decide) rfl (fun ls hl => ?_)
      refine lv_iconst (v := nI 1) hx hb d_M_prime_16 (by decide) ?_
      refine lv_istore_n (lv' := [(2, .int (nI 1)), (1, .int (nI 0)), (0, .int (nI n))]) hx hb d_M_prime_17 rfl hl (by decide) rfl (fun ls hl => ?_)
      refine lp_M_prime_18 hx hb (by omega) (by omega) (fun v d ls hl hq hv2 => ?_) _ 0 1 ls (lv_sub hl [1, 0, 2] rfl) (by omega) (by omega) (rfl) (by omega) rfl
      refine lv_iload_n hx hb d_M_prime_43 rfl (lv_at hl 0 rfl) ?_
      refine lv_iconst (v := nI 2) hx hb d_M_prime_44 (by decide) ?_
      refine lv_icmp_ne (tgt := 52) hx hb d_M_prime_45 (by decide) (fun hc45 => ?_) (fun hc45 => ?_)
      · skip
        rw [nI_eq (a := v) (b := 2) (by omega) (by omega)] at hc45
        refine lv_iconst (v := nI 0) hx hb d_M_prime_52 (by decide) ?_
        exact pu_zret hx hb hr (by decide) hS d_M_prime_53 hlocks (by rw [ip_n (by omega) (by omega), ← sp_dvp (by omega) (by omega), ← hq]; simp only [hc45]; decide)
      · skip
        rw [nI_eq (a := v) (b := 2) (by omega) (by omega)] at hc45
        refine lv_iconst (v := nI 1) hx hb d_M_prime_48 (by decide) ?_
        refine lv_goto (tgt := 53) hx hb d_M_prime_49 (by decide) ?_
        exact pu_zret hx hb hr (by decide) hS d_M_prime_53 hlocks (by rw [ip_n (by omega) (by omega), ← sp_dvp (by omega) (by omega), ← hq]; simp only [hc45]; decide)
    · skip
      rw [ix_ge (x := x) (n := 229) (by omega)] at hc9
      refine lv_iconst (v := nI 0) hx hb d_M_prime_12 (by decide) ?_
      exact pu_zret hx hb hr (by decide) hS d_M_prime_13 hlocks ((bI_f (by simp only [sp_isP, Bool.and_eq_false_iff, decide_eq_false_iff_not]; omega)).symm)

set_option maxHeartbeats 4000000 in
set_option maxRecDepth 100000 in
theorem c_X_isKey (l : Launch) (x y : Int32)  : Met l y_X_isKey w_X_isKey ({ frames := 1, cells := 0, slots := 0, locals := 21 }) (va_Pc [.int x, .int y] (fun _ => True)) (qI (bI (sp_isK x y))) 0 0 (fun _ => False) := by
  refine Met.ofW (cc := b_X_isKey) (maxL := 2) (ret := some .boolean) (by decide) rfl ?_
  intro pg ev s mi args below meth co s₁ B hml hv
  obtain ⟨rfl, -⟩ := hv
  have hx := B.exec
  have hb := B.bytes
  have hr := B.returns
  have hts := atoms_spec (ws := w_X_isKey) B.pre
  have hown : s.vm.findClass R_X = some mi.cls := findClass_of_methodNamed B.named
  have hlocks := B.notSynchronized
  have hS : va_S (fun _ => False) s.heap s.heap [] := va_S.rf
  have hl := lv_entry ([.int x, .int y]) (n := 2) (Nat.le_of_ble_eq_true rfl)
  rw [lg_entry_eq]
  generalize (lg_sl ([.int x, .int y]) ++ List.replicate (2 - (lg_sl ([.int x, .int y])).length) Slot.unset).toArray = ls at hl ⊢
  have hl : lv_has ls 2 [(0, .int x), (1, .int y)] := hl
  refine lv_iload_n hx hb d_X_isKey_0 rfl (lv_at hl 0 rfl) ?_
  refine pu_i (va_runS (As := [.int x]) (rest := []) ⟨hx, hb, hml, hown, hts⟩ (c_X_isKeyPrime l x) (va_cwS 1 hts (al_S (k_X_isKeyPrime) (aw_t61) (aw_t62) (aw_t1)) rfl rfl rfl (by decide +kernel) ⟨Nat.le_of_ble_eq_true rfl, Nat.le_of_ble_eq_true rfl⟩) pu_preS rfl rfl hl.1 rfl (lv_room (Nat.le_of_ble_eq_true rfl)) d_X_isKey_1 ⟨Nat.zero_le _, Nat.zero_le _⟩) hS (fun H locs hkp hS => ?_)
  refine lv_if_eq (tgt := 39) hx hb d_X_isKey_4 (by decide) (fun hc4 => ?_) (fun hc4 => ?_)
  · skip
    rw [bI_0] at hc4
    refine lv_iconst (v := nI 0) hx hb d_X_isKey_39 (by decide) ?_
    exact pu_zret hx hb hr (by decide) hS d_X_isKey_40 hlocks ((bI_f (by simp [sp_isK, hc4])).symm)
  · skip
    rw [bI_0] at hc4
    rw [Bool.not_eq_false] at hc4
    refine lv_iload_n hx hb d_X_isKey_7 rfl (lv_at hl 1 rfl) ?_
    refine pu_i (va_runS (As := [.int y]) (rest := []) ⟨hx, hb, hml, hown, hts⟩ (c_X_isKeyPrime l y) (va_cwS 1 hts (al_S (k_X_isKeyPrime) (aw_t61) (aw_t62) (aw_t1)) rfl rfl rfl (by decide +kernel) ⟨Nat.le_of_ble_eq_true rfl, Nat.le_of_ble_eq_true rfl⟩) pu_preS rfl rfl hl.1 rfl (lv_room (Nat.le_of_ble_eq_true rfl)) d_X_isKey_8 ⟨Nat.zero_le _, Nat.zero_le _⟩) hS (fun H locs hkp hS => ?_)
    refine lv_if_eq (tgt := 39) hx hb d_X_isKey_11 (by decide) (fun hc11 => ?_) (fun hc11 => ?_)
    · skip
      rw [bI_0] at hc11
      refine lv_iconst (v := nI 0) hx hb d_X_isKey_39 (by decide) ?_
      exact pu_zret hx hb hr (by decide) hS d_X_isKey_40 hlocks ((bI_f (by simp [sp_isK, hc4, hc11])).symm)
    · skip
      rw [bI_0] at hc11
      rw [Bool.not_eq_false] at hc11
      obtain ⟨a, hpa, ha2, rfl⟩ := sp_isP_of hc4
      obtain ⟨b, hpb, hb2, rfl⟩ := sp_isP_of hc11
      have ha3 := hpa.1
      have ha9 := hpa.2.1
      have hb3 := hpb.1
      have hb9 := hpb.2.1
      refine lv_iload_n hx hb d_X_isKey_14 rfl (lv_at hl 0 rfl) ?_
      refine lv_iload_n hx hb d_X_isKey_15 rfl (lv_at hl 1 rfl) ?_
      refine lv_icmp_eq (tgt := 39) hx hb d_X_isKey_16 (by decide) (fun hc16 => ?_) (fun hc16 => ?_)
      · skip
        rw [nI_eq (a := a) (b := b) (by omega) (by omega)] at hc16
        refine lv_iconst (v := nI 0) hx hb d_X_isKey_39 (by decide) ?_
        exact pu_zret hx hb hr (by decide) hS d_X_isKey_40 hlocks ((bI_f (by simp only [sp_isK, hc4, hc11, ix_nat ha2, ix_nat hb2, nI_toInt ha2, nI_toInt hb2, Int.toNat_natCast, Bool.true_and, ne_eq, Bool.and_eq_false_iff, decide_eq_false_iff_not]; omega)).symm)
      · skip
        rw [nI_eq (a := a) (b := b) (by omega) (by omega)] at hc16
        refine lv_iload_n hx hb d_X_isKey_19 rfl (lv_at hl 1 rfl) ?_
        refine lv_iconst (v := nI 1) hx hb d_X_isKey_20 (by decide) ?_
        refine lv_isub hx hb d_X_isKey_21 ?_
        refine wk_i (y := nI (b - 1)) (pk_sub (by omega)) ?_
        refine lv_iload_n hx hb d_X_isKey_22 rfl (lv_at hl 0 rfl) ?_
        refine lv_irem hx hb d_X_isKey_23 (nI_ne0 (by omega) (by omega)) ?_
        refine wk_i (y := nI ((b - 1) % a)) (pk_rem (by omega) (by omega) (by omega)) ?_
        have hm23 := Nat.mod_le (b - 1) a
        refine lv_if_eq (tgt := 39) hx hb d_X_isKey_24 (by decide) (fun hc24 => ?_) (fun hc24 => ?_)
        · skip
          rw [← nI_0] at hc24
          rw [nI_eq (a := (b - 1) % a) (b := 0) (by omega) (by omega)] at hc24
          refine lv_iconst (v := nI 0) hx hb d_X_isKey_39 (by decide) ?_
          exact pu_zret hx hb hr (by decide) hS d_X_isKey_40 hlocks ((bI_f (by simp only [sp_isK, hc4, hc11, ix_nat ha2, ix_nat hb2, nI_toInt ha2, nI_toInt hb2, Int.toNat_natCast, Bool.true_and, ne_eq, Bool.and_eq_false_iff, decide_eq_false_iff_not]; omega)).symm)
        · skip
          rw [← nI_0] at hc24
          rw [nI_eq (a := (b - 1) % a) (b := 0) (by omega) (by omega)] at hc24
          refine lv_iload_n hx hb d_X_isKey_27 rfl (lv_at hl 0 rfl) ?_
          refine lv_iconst (v := nI 1) hx hb d_X_isKey_28 (by decide) ?_
          refine lv_isub hx hb d_X_isKey_29 ?_
          refine wk_i (y := nI (a - 1)) (pk_sub (by omega)) ?_
          refine lv_iload_n hx hb d_X_isKey_30 rfl (lv_at hl 1 rfl) ?_
          refine lv_irem hx hb d_X_isKey_31 (nI_ne0 (by omega) (by omega)) ?_
          refine wk_i (y := nI ((a - 1) % b)) (pk_rem (by omega) (by omega) (by omega)) ?_
          have hm31 := Nat.mod_le (a - 1) b
          refine lv_if_eq (tgt := 39) hx hb d_X_isKey_32 (by decide) (fun hc32 => ?_) (fun hc32 => ?_)
          · skip
            rw [← nI_0] at hc32
            rw [nI_eq (a := (a - 1) % b) (b := 0) (by omega) (by omega)] at hc32
            refine lv_iconst (v := nI 0) hx hb d_X_isKey_39 (by decide) ?_
            exact pu_zret hx hb hr (by decide) hS d_X_isKey_40 hlocks ((bI_f (by simp only [sp_isK, hc4, hc11, ix_nat ha2, ix_nat hb2, nI_toInt ha2, nI_toInt hb2, Int.toNat_natCast, Bool.true_and, ne_eq, Bool.and_eq_false_iff, decide_eq_false_iff_not]; omega)).symm)
          · skip
            rw [← nI_0] at hc32
            rw [nI_eq (a := (a - 1) % b) (b := 0) (by omega) (by omega)] at hc32
            refine lv_iconst (v := nI 1) hx hb d_X_isKey_35 (by decide) ?_
            refine lv_goto (tgt := 40) hx hb d_X_isKey_36 (by decide) ?_
            exact pu_zret hx hb hr (by decide) hS d_X_isKey_40 hlocks ((bI_t (by simp only [sp_isK, hc4, hc11, ix_nat ha2, ix_nat hb2, nI_toInt ha2, nI_toInt hb2, Int.toNat_natCast, Bool.true_and, ne_eq, Bool.and_eq_true, decide_eq_true_eq]; omega)).symm)
