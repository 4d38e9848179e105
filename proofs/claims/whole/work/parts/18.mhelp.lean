set_option maxHeartbeats 4000000 in
set_option maxRecDepth 100000 in
theorem c_M_isMessage (l : Launch) (dC : Nat → ClassId) (dI : Nat → Nat → Nat) (h1 q1 : Nat) (cB : ClassId) (p q bx cl cd rd : Nat) (g : Nat → Nat) (x : Int64) (hn : p * q ≤ 52441) : Met l y_M_isMessage w_M_isMessage ({ frames := 0, cells := 0, slots := 0, locals := 0 }) (va_Pc [.ref h1, .long x] (fun U => va_P (dC, dI) classes [(h1, .inr (1, [.long (lN (p * q)), .long (lN (p * q * (p * q))), .long (lN (sp_f p q)), .long (lN (sp_cex p q)), .int (nI bx), .int (nI cl), .int (nI cd), .int (nI rd), .ref q1])), (q1, .inl (cB, 30, .inr (.inl (fun j => lN (g j)))))] U.heap ∧ va_K (dC, dI) classes [(cB, .long)] U)) (qI (bI (sp_isM p q x))) 0 0 (fun _ => False) := by
  refine Met.ofW (cc := b_M_isMessage) (maxL := 3) (ret := some .boolean) (by decide) rfl ?_
  intro pg ev s mi args below meth co s₁ B hml hv
  obtain ⟨rfl, hP, hK⟩ := hv
  have hx := B.exec
  have hb := B.bytes
  have hr := B.returns
  have hts := atoms_spec (ws := w_M_isMessage) B.pre
  have hown : s.vm.findClass R_M = some mi.cls := findClass_of_methodNamed B.named
  have hlocks := B.notSynchronized
  have hS : va_S (fun _ => False) s.heap s.heap [] := va_S.rf
  have hP : va_P (dC, dI) classes [(h1, .inr (1, [.long (lN (p * q)), .long (lN (p * q * (p * q))), .long (lN (sp_f p q)), .long (lN (sp_cex p q)), .int (nI bx), .int (nI cl), .int (nI cd), .int (nI rd), .ref q1])), (q1, .inl (cB, 30, .inr (.inl (fun j => lN (g j)))))] s.heap := hP
  have hl := lv_entry ([.ref h1, .long x]) (n := 3) (Nat.le_of_ble_eq_true rfl)
  rw [lg_entry_eq]
  generalize (lg_sl ([.ref h1, .long x]) ++ List.replicate (3 - (lg_sl ([.ref h1, .long x])).length) Slot.unset).toArray = ls at hl ⊢
  have hl : lv_has ls 3 [(0, .ref h1), (1, .long x)] := hl
  refine lv_lload_n hx hb d_M_isMessage_0 rfl (lv_at hl 1 rfl) ?_
  refine lv_lconst (v := lN 0) hx hb d_M_isMessage_1 rfl ?_
  refine W.lcmp hx hb d_M_isMessage_2 ?_
  refine lv_if_lt (tgt := 19) hx hb d_M_isMessage_3 (by decide) (fun hc3 => ?_) (fun hc3 => ?_)
  · skip
    rw [lg_cmp_lt] at hc3
    rw [lx_lt (x := x) (n := 0) (by omega)] at hc3
    refine lv_iconst (v := nI 0) hx hb d_M_isMessage_19 (by decide) ?_
    exact pu_zret hx hb hr (by decide) hS d_M_isMessage_20 hlocks ((bI_f (by simp only [sp_isM, Bool.and_eq_false_iff, decide_eq_false_iff_not]; omega)).symm)
  · skip
    rw [lg_cmp_lt] at hc3
    rw [lx_lt (x := x) (n := 0) (by omega)] at hc3
    refine lv_lload_n hx hb d_M_isMessage_6 rfl (lv_at hl 1 rfl) ?_
    refine lv_aload_n hx hb d_M_isMessage_7 rfl (lv_at hl 0 rfl) ?_
    refine va_get (D := (dC, dI)) (ci := 1) (v := .long (lN (p * q))) (C := R_M) (T := F_M) (N := 9) hx hb hts f_M hown hK hP 0 rfl rfl 0 (by decide) (hts _ (al_m aw_t207)) (fun _ h9 => h9) rfl d_M_isMessage_8 ?_
    refine W.lcmp hx hb d_M_isMessage_11 ?_
    refine lv_if_ge (tgt := 19) hx hb d_M_isMessage_12 (by decide) (fun hc12 => ?_) (fun hc12 => ?_)
    · skip
      rw [lg_cmp_ge] at hc12
      rw [lx_le (x := x) (n := p * q) (by omega)] at hc12
      refine lv_iconst (v := nI 0) hx hb d_M_isMessage_19 (by decide) ?_
      exact pu_zret hx hb hr (by decide) hS d_M_isMessage_20 hlocks ((bI_f (by simp only [sp_isM, Bool.and_eq_false_iff, decide_eq_false_iff_not]; omega)).symm)
    · skip
      rw [lg_cmp_ge] at hc12
      rw [lx_le (x := x) (n := p * q) (by omega)] at hc12
      refine lv_iconst (v := nI 1) hx hb d_M_isMessage_15 (by decide) ?_
      refine lv_goto (tgt := 20) hx hb d_M_isMessage_16 (by decide) ?_
      exact pu_zret hx hb hr (by decide) hS d_M_isMessage_20 hlocks ((bI_t (by simp only [sp_isM, Bool.and_eq_true, decide_eq_true_eq]; omega)).symm)

set_option maxHeartbeats 4000000 in
set_option maxRecDepth 100000 in
theorem c_M_isCoin (l : Launch) (dC : Nat → ClassId) (dI : Nat → Nat → Nat) (h1 q1 : Nat) (cB : ClassId) (p q bx cl cd rd : Nat) (g : Nat → Nat) (x : Int64) (hk : ma_K p q) : Met l y_M_isCoin w_M_isCoin ({ frames := 1, cells := 0, slots := 0, locals := 29 }) (va_Pc [.ref h1, .long x] (fun U => va_P (dC, dI) classes [(h1, .inr (1, [.long (lN (p * q)), .long (lN (p * q * (p * q))), .long (lN (sp_f p q)), .long (lN (sp_cex p q)), .int (nI bx), .int (nI cl), .int (nI cd), .int (nI rd), .ref q1])), (q1, .inl (cB, 30, .inr (.inl (fun j => lN (g j)))))] U.heap ∧ va_K (dC, dI) classes [(cB, .long)] U)) (qI (bI (sp_isC p q x))) 0 0 (fun _ => False) := by
  refine Met.ofW (cc := b_M_isCoin) (maxL := 3) (ret := some .boolean) (by decide) rfl ?_
  intro pg ev s mi args below meth co s₁ B hml hv
  obtain ⟨rfl, hP, hK⟩ := hv
  have hx := B.exec
  have hb := B.bytes
  have hr := B.returns
  have hts := atoms_spec (ws := w_M_isCoin) B.pre
  have hown : s.vm.findClass R_M = some mi.cls := findClass_of_methodNamed B.named
  have hlocks := B.notSynchronized
  have hS : va_S (fun _ => False) s.heap s.heap [] := va_S.rf
  have hP : va_P (dC, dI) classes [(h1, .inr (1, [.long (lN (p * q)), .long (lN (p * q * (p * q))), .long (lN (sp_f p q)), .long (lN (sp_cex p q)), .int (nI bx), .int (nI cl), .int (nI cd), .int (nI rd), .ref q1])), (q1, .inl (cB, 30, .inr (.inl (fun j => lN (g j)))))] s.heap := hP
  have hl := lv_entry ([.ref h1, .long x]) (n := 3) (Nat.le_of_ble_eq_true rfl)
  rw [lg_entry_eq]
  generalize (lg_sl ([.ref h1, .long x]) ++ List.replicate (3 - (lg_sl ([.ref h1, .long x])).length) Slot.unset).toArray = ls at hl ⊢
  have hl : lv_has ls 3 [(0, .ref h1), (1, .long x)] := hl
  have hbg := ma_big hk
  have hp3 := hk.1.1
  have hq3 := hk.2.1.1
  have hp9 := hk.1.2.1
  have hq9 := hk.2.1.2.1
  have hkf := ma_keyf hk
  refine lv_lload_n hx hb d_M_isCoin_0 rfl (lv_at hl 1 rfl) ?_
  refine lv_lconst (v := lN 1) hx hb d_M_isCoin_1 rfl ?_
  refine W.lcmp hx hb d_M_isCoin_2 ?_
  refine lv_if_lt (tgt := 32) hx hb d_M_isCoin_3 (by decide) (fun hc3 => ?_) (fun hc3 => ?_)
  · skip
    rw [lg_cmp_lt] at hc3
    rw [lx_lt (x := x) (n := 1) (by omega)] at hc3
    refine lv_iconst (v := nI 0) hx hb d_M_isCoin_32 (by decide) ?_
    exact pu_zret hx hb hr (by decide) hS d_M_isCoin_33 hlocks ((bI_f (by simp only [sp_isC, Bool.and_eq_false_iff, decide_eq_false_iff_not]; omega)).symm)
  · skip
    rw [lg_cmp_lt] at hc3
    rw [lx_lt (x := x) (n := 1) (by omega)] at hc3
    refine lv_lload_n hx hb d_M_isCoin_6 rfl (lv_at hl 1 rfl) ?_
    refine lv_aload_n hx hb d_M_isCoin_7 rfl (lv_at hl 0 rfl) ?_
    refine va_get (D := (dC, dI)) (ci := 1) (v := .long (lN (p * q))) (C := R_M) (T := F_M) (N := 9) hx hb hts f_M hown hK hP 0 rfl rfl 0 (by decide) (hts _ (al_m aw_t207)) (fun _ h9 => h9) rfl d_M_isCoin_8 ?_
    refine W.lcmp hx hb d_M_isCoin_11 ?_
    refine lv_if_ge (tgt := 32) hx hb d_M_isCoin_12 (by decide) (fun hc12 => ?_) (fun hc12 => ?_)
    · skip
      rw [lg_cmp_ge] at hc12
      rw [lx_le (x := x) (n := p * q) (by omega)] at hc12
      refine lv_iconst (v := nI 0) hx hb d_M_isCoin_32 (by decide) ?_
      exact pu_zret hx hb hr (by decide) hS d_M_isCoin_33 hlocks ((bI_f (by simp only [sp_isC, Bool.and_eq_false_iff, decide_eq_false_iff_not]; omega)).symm)
    · skip
      rw [lg_cmp_ge] at hc12
      rw [lx_le (x := x) (n := p * q) (by omega)] at hc12
      obtain ⟨k, hkk, rfl⟩ := lx_of (x := x) (by omega)
      rw [pk_lT hkk] at hc3 hc12
      refine lv_aload_n hx hb d_M_isCoin_15 rfl (lv_at hl 0 rfl) ?_
      refine va_get (D := (dC, dI)) (ci := 1) (v := .long (lN (p * q))) (C := R_M) (T := F_M) (N := 9) hx hb hts f_M hown hK hP 0 rfl rfl 0 (by decide) (hts _ (al_m aw_t207)) (fun _ h9 => h9) rfl d_M_isCoin_16 ?_
      refine lv_lload_n hx hb d_M_isCoin_19 rfl (lv_at hl 1 rfl) ?_
      refine pu_l (va_runS (As := [.long (lN (p * q)), .long (lN k)]) (rest := []) ⟨hx, hb, hml, hown, hts⟩ (c_M_factor l (p * q) k (by omega) hkk) (va_cwS 2 hts (al_S (k_M_factor) (aw_t259) (aw_t260) (aw_t2)) rfl rfl rfl (by decide +kernel) ⟨Nat.le_of_ble_eq_true rfl, Nat.le_of_ble_eq_true rfl⟩) pu_preS rfl rfl hl.1 rfl (lv_room (Nat.le_of_ble_eq_true rfl)) d_M_isCoin_20 ⟨Nat.zero_le _, Nat.zero_le _⟩) hS (fun H locs hkp hS => ?_)
      have hP := hkp _ _ _ hP
      have hgl : Nat.gcd (p * q) k ≤ p * q := Nat.gcd_le_left _ (by omega)
      refine lv_lconst (v := lN 1) hx hb d_M_isCoin_23 rfl ?_
      refine W.lcmp hx hb d_M_isCoin_24 ?_
      refine lv_if_ne (tgt := 32) hx hb d_M_isCoin_25 (by decide) (fun hc25 => ?_) (fun hc25 => ?_)
      · skip
        rw [lg_cmp_eq] at hc25
        rw [pk_lEQ (a := Nat.gcd (p * q) k) (b := 1) (by omega) (by omega)] at hc25
        have hu := ug_f hk hc25
        refine lv_iconst (v := nI 0) hx hb d_M_isCoin_32 (by decide) ?_
        exact pu_zret hx hb hr (by decide) hS d_M_isCoin_33 hlocks ((bI_f (by simp only [sp_isC, lx_nat hkk, pk_lT hkk, Int.toNat_natCast, hu, Bool.and_false])).symm)
      · skip
        rw [lg_cmp_eq] at hc25
        rw [pk_lEQ (a := Nat.gcd (p * q) k) (b := 1) (by omega) (by omega)] at hc25
        have hu := ug_t hk hc25
        refine lv_iconst (v := nI 1) hx hb d_M_isCoin_28 (by decide) ?_
        refine lv_goto (tgt := 33) hx hb d_M_isCoin_29 (by decide) ?_
        exact pu_zret hx hb hr (by decide) hS d_M_isCoin_33 hlocks ((bI_t (by simp only [sp_isC, lx_nat hkk, pk_lT hkk, Int.toNat_natCast, hu, Bool.and_eq_true, decide_eq_true_eq, and_true]; omega)).symm)

set_option maxHeartbeats 4000000 in
set_option maxRecDepth 100000 in
theorem c_M_isSeal (l : Launch) (dC : Nat → ClassId) (dI : Nat → Nat → Nat) (h1 q1 : Nat) (cB : ClassId) (p q bx cl cd rd : Nat) (g : Nat → Nat) (x : Int64) (hk : ma_K p q) : Met l y_M_isSeal w_M_isSeal ({ frames := 1, cells := 0, slots := 0, locals := 29 }) (va_Pc [.ref h1, .long x] (fun U => va_P (dC, dI) classes [(h1, .inr (1, [.long (lN (p * q)), .long (lN (p * q * (p * q))), .long (lN (sp_f p q)), .long (lN (sp_cex p q)), .int (nI bx), .int (nI cl), .int (nI cd), .int (nI rd), .ref q1])), (q1, .inl (cB, 30, .inr (.inl (fun j => lN (g j)))))] U.heap ∧ va_K (dC, dI) classes [(cB, .long)] U)) (qI (bI (sp_isS p q x))) 0 0 (fun _ => False) := by
  refine Met.ofW (cc := b_M_isSeal) (maxL := 3) (ret := some .boolean) (by decide) rfl ?_
  intro pg ev s mi args below meth co s₁ B hml hv
  obtain ⟨rfl, hP, hK⟩ := hv
  have hx := B.exec
  have hb := B.bytes
  have hr := B.returns
  have hts := atoms_spec (ws := w_M_isSeal) B.pre
  have hown : s.vm.findClass R_M = some mi.cls := findClass_of_methodNamed B.named
  have hlocks := B.notSynchronized
  have hS : va_S (fun _ => False) s.heap s.heap [] := va_S.rf
  have hP : va_P (dC, dI) classes [(h1, .inr (1, [.long (lN (p * q)), .long (lN (p * q * (p * q))), .long (lN (sp_f p q)), .long (lN (sp_cex p q)), .int (nI bx), .int (nI cl), .int (nI cd), .int (nI rd), .ref q1])), (q1, .inl (cB, 30, .inr (.inl (fun j => lN (g j)))))] s.heap := hP
  have hl := lv_entry ([.ref h1, .long x]) (n := 3) (Nat.le_of_ble_eq_true rfl)
  rw [lg_entry_eq]
  generalize (lg_sl ([.ref h1, .long x]) ++ List.replicate (3 - (lg_sl ([.ref h1, .long x])).length) Slot.unset).toArray = ls at hl ⊢
  have hl : lv_has ls 3 [(0, .ref h1), (1, .long x)] := hl
  have hbg := ma_big hk
  have hp3 := hk.1.1
  have hq3 := hk.2.1.1
  have hp9 := hk.1.2.1
  have hq9 := hk.2.1.2.1
  have hkf := ma_keyf hk
  refine lv_lload_n hx hb d_M_isSeal_0 rfl (lv_at hl 1 rfl) ?_
  refine lv_lconst (v := lN 1) hx hb d_M_isSeal_1 rfl ?_
  refine W.lcmp hx hb d_M_isSeal_2 ?_
  refine lv_if_lt (tgt := 32) hx hb d_M_isSeal_3 (by decide) (fun hc3 => ?_) (fun hc3 => ?_)
  · skip
    rw [lg_cmp_lt] at hc3
    rw [lx_lt (x := x) (n := 1) (by omega)] at hc3
    refine lv_iconst (v := nI 0) hx hb d_M_isSeal_32 (by decide) ?_
    exact pu_zret hx hb hr (by decide) hS d_M_isSeal_33 hlocks ((bI_f (by simp only [sp_isS, Bool.and_eq_false_iff, decide_eq_false_iff_not]; omega)).symm)
  · skip
    rw [lg_cmp_lt] at hc3
    rw [lx_lt (x := x) (n := 1) (by omega)] at hc3
    refine lv_lload_n hx hb d_M_isSeal_6 rfl (lv_at hl 1 rfl) ?_
    refine lv_aload_n hx hb d_M_isSeal_7 rfl (lv_at hl 0 rfl) ?_
    refine va_get (D := (dC, dI)) (ci := 1) (v := .long (lN (p * q * (p * q)))) (C := R_M) (T := F_M) (N := 9) hx hb hts f_M hown hK hP 0 rfl rfl 1 (by decide) (hts _ (al_m aw_t208)) (fun _ h9 => h9) rfl d_M_isSeal_8 ?_
    refine W.lcmp hx hb d_M_isSeal_11 ?_
    refine lv_if_ge (tgt := 32) hx hb d_M_isSeal_12 (by decide) (fun hc12 => ?_) (fun hc12 => ?_)
    · skip
      rw [lg_cmp_ge] at hc12
      rw [lx_le (x := x) (n := p * q * (p * q)) (by omega)] at hc12
      refine lv_iconst (v := nI 0) hx hb d_M_isSeal_32 (by decide) ?_
      exact pu_zret hx hb hr (by decide) hS d_M_isSeal_33 hlocks ((bI_f (by simp only [sp_isS, Bool.and_eq_false_iff, decide_eq_false_iff_not]; omega)).symm)
    · skip
      rw [lg_cmp_ge] at hc12
      rw [lx_le (x := x) (n := p * q * (p * q)) (by omega)] at hc12
      obtain ⟨k, hkk, rfl⟩ := lx_of (x := x) (by omega)
      rw [pk_lT hkk] at hc3 hc12
      refine lv_aload_n hx hb d_M_isSeal_15 rfl (lv_at hl 0 rfl) ?_
      refine va_get (D := (dC, dI)) (ci := 1) (v := .long (lN (p * q))) (C := R_M) (T := F_M) (N := 9) hx hb hts f_M hown hK hP 0 rfl rfl 0 (by decide) (hts _ (al_m aw_t207)) (fun _ h9 => h9) rfl d_M_isSeal_16 ?_
      refine lv_lload_n hx hb d_M_isSeal_19 rfl (lv_at hl 1 rfl) ?_
      refine pu_l (va_runS (As := [.long (lN (p * q)), .long (lN k)]) (rest := []) ⟨hx, hb, hml, hown, hts⟩ (c_M_factor l (p * q) k (by omega) hkk) (va_cwS 2 hts (al_S (k_M_factor) (aw_t259) (aw_t260) (aw_t2)) rfl rfl rfl (by decide +kernel) ⟨Nat.le_of_ble_eq_true rfl, Nat.le_of_ble_eq_true rfl⟩) pu_preS rfl rfl hl.1 rfl (lv_room (Nat.le_of_ble_eq_true rfl)) d_M_isSeal_20 ⟨Nat.zero_le _, Nat.zero_le _⟩) hS (fun H locs hkp hS => ?_)
      have hP := hkp _ _ _ hP
      have hgl : Nat.gcd (p * q) k ≤ p * q := Nat.gcd_le_left _ (by omega)
      refine lv_lconst (v := lN 1) hx hb d_M_isSeal_23 rfl ?_
      refine W.lcmp hx hb d_M_isSeal_24 ?_
      refine lv_if_ne (tgt := 32) hx hb d_M_isSeal_25 (by decide) (fun hc25 => ?_) (fun hc25 => ?_)
      · skip
        rw [lg_cmp_eq] at hc25
        rw [pk_lEQ (a := Nat.gcd (p * q) k) (b := 1) (by omega) (by omega)] at hc25
        have hu := ug_f hk hc25
        refine lv_iconst (v := nI 0) hx hb d_M_isSeal_32 (by decide) ?_
        exact pu_zret hx hb hr (by decide) hS d_M_isSeal_33 hlocks ((bI_f (by simp only [sp_isS, lx_nat hkk, pk_lT hkk, Int.toNat_natCast, hu, Bool.and_false])).symm)
      · skip
        rw [lg_cmp_eq] at hc25
        rw [pk_lEQ (a := Nat.gcd (p * q) k) (b := 1) (by omega) (by omega)] at hc25
        have hu := ug_t hk hc25
        refine lv_iconst (v := nI 1) hx hb d_M_isSeal_28 (by decide) ?_
        refine lv_goto (tgt := 33) hx hb d_M_isSeal_29 (by decide) ?_
        exact pu_zret hx hb hr (by decide) hS d_M_isSeal_33 hlocks ((bI_t (by simp only [sp_isS, lx_nat hkk, pk_lT hkk, Int.toNat_natCast, hu, Bool.and_eq_true, decide_eq_true_eq, and_true]; omega)).symm)

set_option maxHeartbeats 4000000 in
set_option maxRecDepth 100000 in
theorem c_M_sealing (l : Launch) (dC : Nat → ClassId) (dI : Nat → Nat → Nat) (h1 q1 : Nat) (cB : ClassId) (p q bx cl cd rd : Nat) (g : Nat → Nat) (x y : Nat) (hk : ma_K p q) (hxn : x < 2 ^ 63) (hy : y < 2 ^ 63) : Met l y_M_sealing w_M_sealing ({ frames := 1, cells := 0, slots := 0, locals := 31 }) (va_Pc [.ref h1, .long (lN x), .long (lN y)] (fun U => va_P (dC, dI) classes [(h1, .inr (1, [.long (lN (p * q)), .long (lN (p * q * (p * q))), .long (lN (sp_f p q)), .long (lN (sp_cex p q)), .int (nI bx), .int (nI cl), .int (nI cd), .int (nI rd), .ref q1])), (q1, .inl (cB, 30, .inr (.inl (fun j => lN (g j)))))] U.heap ∧ va_K (dC, dI) classes [(cB, .long)] U)) (qL (lN (sp_seal p q x y))) 0 0 (fun _ => False) := by
  refine Met.ofW (cc := b_M_sealing) (maxL := 7) (ret := some .long) (by decide) rfl ?_
  intro pg ev s mi args below meth co s₁ B hml hv
  obtain ⟨rfl, hP, hK⟩ := hv
  have hx := B.exec
  have hb := B.bytes
  have hr := B.returns
  have hts := atoms_spec (ws := w_M_sealing) B.pre
  have hown : s.vm.findClass R_M = some mi.cls := findClass_of_methodNamed B.named
  have hlocks := B.notSynchronized
  have hS : va_S (fun _ => False) s.heap s.heap [] := va_S.rf
  have hP : va_P (dC, dI) classes [(h1, .inr (1, [.long (lN (p * q)), .long (lN (p * q * (p * q))), .long (lN (sp_f p q)), .long (lN (sp_cex p q)), .int (nI bx), .int (nI cl), .int (nI cd), .int (nI rd), .ref q1])), (q1, .inl (cB, 30, .inr (.inl (fun j => lN (g j)))))] s.heap := hP
  have hl := lv_entry ([.ref h1, .long (lN x), .long (lN y)]) (n := 7) (Nat.le_of_ble_eq_true rfl)
  rw [lg_entry_eq]
  generalize (lg_sl ([.ref h1, .long (lN x), .long (lN y)]) ++ List.replicate (7 - (lg_sl ([.ref h1, .long (lN x), .long (lN y)])).length) Slot.unset).toArray = ls at hl ⊢
  have hl : lv_has ls 7 [(0, .ref h1), (1, .long (lN x)), (3, .long (lN y))] := hl
  have hbg := ma_big hk
  have hp3 := hk.1.1
  have hq3 := hk.2.1.1
  have hp9 := hk.1.2.1
  have hq9 := hk.2.1.2.1
  have hkf := ma_keyf hk
  refine lv_lconst (v := lN 1) hx hb d_M_sealing_0 rfl ?_
  refine lv_aload_n hx hb d_M_sealing_1 rfl (lv_at hl 0 rfl) ?_
  refine va_get (D := (dC, dI)) (ci := 1) (v := .long (lN (p * q))) (C := R_M) (T := F_M) (N := 9) hx hb hts f_M hown hK hP 0 rfl rfl 0 (by decide) (hts _ (al_m aw_t207)) (fun _ h9 => h9) rfl d_M_sealing_2 ?_
  refine lv_ladd hx hb d_M_sealing_5 ?_
  refine wk_l (y := lN (1 + (p * q))) (lN_add 1 (p * q)) ?_
  refine lv_lload_n hx hb d_M_sealing_6 rfl (lv_at hl 1 rfl) ?_
  refine lv_aload_n hx hb d_M_sealing_7 rfl (lv_at hl 0 rfl) ?_
  refine va_get (D := (dC, dI)) (ci := 1) (v := .long (lN (p * q * (p * q)))) (C := R_M) (T := F_M) (N := 9) hx hb hts f_M hown hK hP 0 rfl rfl 1 (by decide) (hts _ (al_m aw_t208)) (fun _ h9 => h9) rfl d_M_sealing_8 ?_
  refine pu_l (va_runS (As := [.long (lN (1 + (p * q))), .long (lN x), .long (lN (p * q * (p * q)))]) (rest := []) ⟨hx, hb, hml, hown, hts⟩ (c_M_raise l (1 + p * q) x (p * q * (p * q)) (by omega) (by omega) (by omega) (by omega)) (va_cwS 3 hts (al_S (k_M_raise) (aw_t266) (aw_t267) (aw_t2)) rfl rfl rfl (by decide +kernel) ⟨Nat.le_of_ble_eq_true rfl, Nat.le_of_ble_eq_true rfl⟩) pu_preS rfl rfl hl.1 rfl (lv_room (Nat.le_of_ble_eq_true rfl)) d_M_sealing_11 ⟨Nat.zero_le _, Nat.zero_le _⟩) hS (fun H locs hkp hS => ?_)
  have hP := hkp _ _ _ hP
  refine lv_lstore (lv' := [(5, .long (lN ((1 + p * q) ^ x % (p * q * (p * q))))), (0, .ref h1), (1, .long (lN x)), (3, .long (lN y))]) hx hb d_M_sealing_14 hl (by decide) rfl (fun ls hl => ?_)
  refine lv_lload hx hb d_M_sealing_16 (lv_at hl 0 rfl) ?_
  refine lv_lload_n hx hb d_M_sealing_18 rfl (lv_at hl 3 rfl) ?_
  refine lv_aload_n hx hb d_M_sealing_19 rfl (lv_at hl 1 rfl) ?_
  refine va_get (D := (dC, dI)) (ci := 1) (v := .long (lN (p * q))) (C := R_M) (T := F_M) (N := 9) hx hb hts f_M hown hK hP 0 rfl rfl 0 (by decide) (hts _ (al_m aw_t207)) (fun _ h9 => h9) rfl d_M_sealing_20 ?_
  refine lv_aload_n hx hb d_M_sealing_23 rfl (lv_at hl 1 rfl) ?_
  refine va_get (D := (dC, dI)) (ci := 1) (v := .long (lN (p * q * (p * q)))) (C := R_M) (T := F_M) (N := 9) hx hb hts f_M hown hK hP 0 rfl rfl 1 (by decide) (hts _ (al_m aw_t208)) (fun _ h9 => h9) rfl d_M_sealing_24 ?_
  refine pu_l (va_runS (As := [.long (lN y), .long (lN (p * q)), .long (lN (p * q * (p * q)))]) (rest := [.long (lN ((1 + p * q) ^ x % (p * q * (p * q))))]) ⟨hx, hb, hml, hown, hts⟩ (c_M_raise l y (p * q) (p * q * (p * q)) (by omega) (by omega) (by omega) (by omega)) (va_cwS 3 hts (al_S (k_M_raise) (aw_t266) (aw_t267) (aw_t2)) rfl rfl rfl (by decide +kernel) ⟨Nat.le_of_ble_eq_true rfl, Nat.le_of_ble_eq_true rfl⟩) pu_preS rfl rfl hl.1 rfl (lv_room (Nat.le_of_ble_eq_true rfl)) d_M_sealing_27 ⟨Nat.zero_le _, Nat.zero_le _⟩) hS (fun H locs hkp hS => ?_)
  have hP := hkp _ _ _ hP
  refine lv_lmul hx hb d_M_sealing_30 ?_
  refine wk_l (y := lN (((1 + p * q) ^ x % (p * q * (p * q))) * (y ^ (p * q) % (p * q * (p * q))))) (lN_mul ((1 + p * q) ^ x % (p * q * (p * q))) (y ^ (p * q) % (p * q * (p * q)))) ?_
  refine lv_aload_n hx hb d_M_sealing_31 rfl (lv_at hl 1 rfl) ?_
  refine va_get (D := (dC, dI)) (ci := 1) (v := .long (lN (p * q * (p * q)))) (C := R_M) (T := F_M) (N := 9) hx hb hts f_M hown hK hP 0 rfl rfl 1 (by decide) (hts _ (al_m aw_t208)) (fun _ h9 => h9) rfl d_M_sealing_32 ?_
  refine lv_lrem hx hb d_M_sealing_35 (lN_ne0 (by omega) (by omega)) ?_
  refine wk_l (y := lN (sp_seal p q x y)) ((pk_lRem (rs_lt (Nat.mod_lt _ (by omega)) (Nat.mod_lt _ (by omega)) (by omega)) (by omega) (by omega)).trans (congrArg lN (fa_sealing p q x y))) ?_
  exact pu_lret hx hb hr hS d_M_sealing_36 hlocks (rfl)

set_option maxHeartbeats 4000000 in
set_option maxRecDepth 100000 in
theorem c_M_coinIn (l : Launch) (dC : Nat → ClassId) (dI : Nat → Nat → Nat) (h1 q1 : Nat) (cB : ClassId) (p q bx cl cd rd : Nat) (g : Nat → Nat) (x : Nat) (hk : ma_K p q) (hxn : x < 2 ^ 63) : Met l y_M_coinIn w_M_coinIn ({ frames := 1, cells := 0, slots := 0, locals := 31 }) (va_Pc [.ref h1, .long (lN x)] (fun U => va_P (dC, dI) classes [(h1, .inr (1, [.long (lN (p * q)), .long (lN (p * q * (p * q))), .long (lN (sp_f p q)), .long (lN (sp_cex p q)), .int (nI bx), .int (nI cl), .int (nI cd), .int (nI rd), .ref q1])), (q1, .inl (cB, 30, .inr (.inl (fun j => lN (g j)))))] U.heap ∧ va_K (dC, dI) classes [(cB, .long)] U)) (qL (lN (sp_coin p q x))) 0 0 (fun _ => False) := by
  refine Met.ofW (cc := b_M_coinIn) (maxL := 3) (ret := some .long) (by decide) rfl ?_
  intro pg ev s mi args below meth co s₁ B hml hv
  obtain ⟨rfl, hP, hK⟩ := hv
  have hx := B.exec
  have hb := B.bytes
  have hr := B.returns
  have hts := atoms_spec (ws := w_M_coinIn) B.pre
  have hown : s.vm.findClass R_M = some mi.cls := findClass_of_methodNamed B.named
  have hlocks := B.notSynchronized
  have hS : va_S (fun _ => False) s.heap s.heap [] := va_S.rf
  have hP : va_P (dC, dI) classes [(h1, .inr (1, [.long (lN (p * q)), .long (lN (p * q * (p * q))), .long (lN (sp_f p q)), .long (lN (sp_cex p q)), .int (nI bx), .int (nI cl), .int (nI cd), .int (nI rd), .ref q1])), (q1, .inl (cB, 30, .inr (.inl (fun j => lN (g j)))))] s.heap := hP
  have hl := lv_entry ([.ref h1, .long (lN x)]) (n := 3) (Nat.le_of_ble_eq_true rfl)
  rw [lg_entry_eq]
  generalize (lg_sl ([.ref h1, .long (lN x)]) ++ List.replicate (3 - (lg_sl ([.ref h1, .long (lN x)])).length) Slot.unset).toArray = ls at hl ⊢
  have hl : lv_has ls 3 [(0, .ref h1), (1, .long (lN x))] := hl
  have hbg := ma_big hk
  have hp3 := hk.1.1
  have hq3 := hk.2.1.1
  have hp9 := hk.1.2.1
  have hq9 := hk.2.1.2.1
  have hkf := ma_keyf hk
  refine lv_lload_n hx hb d_M_coinIn_0 rfl (lv_at hl 1 rfl) ?_
  refine lv_aload_n hx hb d_M_coinIn_1 rfl (lv_at hl 0 rfl) ?_
  refine va_get (D := (dC, dI)) (ci := 1) (v := .long (lN (p * q))) (C := R_M) (T := F_M) (N := 9) hx hb hts f_M hown hK hP 0 rfl rfl 0 (by decide) (hts _ (al_m aw_t207)) (fun _ h9 => h9) rfl d_M_coinIn_2 ?_
  refine lv_lrem hx hb d_M_coinIn_5 (lN_ne0 (by omega) (by omega)) ?_
  refine wk_l (y := lN (x % (p * q))) (pk_lRem (by omega) (by omega) (by omega)) ?_
  have hm5 := Nat.mod_le x (p * q)
  refine lv_aload_n hx hb d_M_coinIn_6 rfl (lv_at hl 0 rfl) ?_
  refine va_get (D := (dC, dI)) (ci := 1) (v := .long (lN (sp_cex p q))) (C := R_M) (T := F_M) (N := 9) hx hb hts f_M hown hK hP 0 rfl rfl 3 (by decide) (hts _ (al_m aw_t210)) (fun _ h9 => h9) rfl d_M_coinIn_7 ?_
  refine lv_aload_n hx hb d_M_coinIn_10 rfl (lv_at hl 0 rfl) ?_
  refine va_get (D := (dC, dI)) (ci := 1) (v := .long (lN (p * q))) (C := R_M) (T := F_M) (N := 9) hx hb hts f_M hown hK hP 0 rfl rfl 0 (by decide) (hts _ (al_m aw_t207)) (fun _ h9 => h9) rfl d_M_coinIn_11 ?_
  refine pu_l (va_runS (As := [.long (lN (x % (p * q))), .long (lN (sp_cex p q)), .long (lN (p * q))]) (rest := []) ⟨hx, hb, hml, hown, hts⟩ (c_M_raise l (x % (p * q)) (sp_cex p q) (p * q) (by omega) (by omega) (by omega) (Nat.lt_trans (Nat.mod_lt _ (by omega)) (by omega))) (va_cwS 3 hts (al_S (k_M_raise) (aw_t266) (aw_t267) (aw_t2)) rfl rfl rfl (by decide +kernel) ⟨Nat.le_of_ble_eq_true rfl, Nat.le_of_ble_eq_true rfl⟩) pu_preS rfl rfl hl.1 rfl (lv_room (Nat.le_of_ble_eq_true rfl)) d_M_coinIn_14 ⟨Nat.zero_le _, Nat.zero_le _⟩) hS (fun H locs hkp hS => ?_)
  have hP := hkp _ _ _ hP
  exact pu_lret hx hb hr hS d_M_coinIn_17 hlocks (rfl)

section
variable {pg : Program} {l : Launch} {ev : Env} {R : Room} {s : State} {mi : MethodId} {args : Array Value} {below : List Frame} {meth : Method} {co : Code} {H : Heap} {locs : List Loc} {cells slots : Nat} {Q : State → Prop}
set_option maxHeartbeats 4000000 in
set_option maxRecDepth 100000 in
theorem lp_M_messageIn_37 {h1 q1 : Nat} {cB : ClassId} {p q bx cl cd rd : Nat} {g : Nat → Nat} (hx : pg.tables.exec = Jvm.exec) (hb : co.code = b_M_messageIn) {w0 : Cond} {dC : Nat → ClassId} {dI : Nat → Nat → Nat} (hts : ∀ w ∈ w0 :: al_w, w.before args s = true) (hown : s.vm.findClass R_M = some mi.cls) (hK : va_K (dC, dI) classes [(cB, .long)] s) (hP : va_P (dC, dI) classes [(h1, .inr (1, [.long (lN (p * q)), .long (lN (p * q * (p * q))), .long (lN (sp_f p q)), .long (lN (sp_cex p q)), .int (nI bx), .int (nI cl), .int (nI cd), .int (nI rd), .ref q1])), (q1, .inl (cB, 30, .inr (.inl (fun j => lN (g j)))))] H) {R0 x M0 : Nat} (hbg : 15 ≤ p * q) (hb5 : p * q * (p * q) ≤ 2750058481) (hbn : p * q ≤ 52441) (hb6 : 225 ≤ p * q * (p * q)) (hxn : x < p * q * (p * q)) (hM0 : M0 < p * q) (hU : ∀ j, j < p * q → (R0 * (1 + p * q * j) % (p * q * (p * q)) = x ↔ j = M0)) (k75 : ∀ (m : Nat) (ls : Array Slot), lv_has ls 11 [(9, .long (lN m)), (0, .ref h1), (1, .long (lN x)), (5, .long (lN (R0 * (1 + p * q * m) % (p * q * (p * q))))), (7, .long (lN (R0 % (p * q * (p * q)) * (p * q) % (p * q * (p * q)))))] → (m = M0) → W pg l ev R s mi args below meth co H locs cells slots Q (F0 mi 75 ls [])) : ∀ (mz : Nat) (m : Nat) (ls : Array Slot), lv_has ls 11 [(9, .long (lN m)), (0, .ref h1), (1, .long (lN x)), (5, .long (lN (R0 * (1 + p * q * m) % (p * q * (p * q))))), (7, .long (lN (R0 % (p * q * (p * q)) * (p * q) % (p * q * (p * q)))))] → (m ≤ M0) → M0 - m = mz → W pg l ev R s mi args below meth co H locs cells slots Q (F0 mi 37 ls []) := by
  intro mz
  induction mz using Nat.strongRecOn with
  | ind mz ih =>
    intro m ls hl h1_ hk
    subst hk
    have ht1 : R0 * (1 + p * q * m) % (p * q * (p * q)) < p * q * (p * q) := Nat.mod_lt _ (by omega)
    have ht2 : R0 % (p * q * (p * q)) * (p * q) % (p * q * (p * q)) < p * q * (p * q) := Nat.mod_lt _ (by omega)
    refine lv_lload hx hb d_M_messageIn_37 (lv_at hl 3 rfl) ?_
    refine lv_lload_n hx hb d_M_messageIn_39 rfl (lv_at hl 2 rfl) ?_
    refine W.lcmp hx hb d_M_messageIn_40 ?_
    refine lv_if_eq (tgt := 75) hx hb d_M_messageIn_41 (by decide) (fun hc41 => ?_) (fun hc41 => ?_)
    · skip
      rw [lg_cmp_eq] at hc41
      rw [pk_lEQ (a := R0 * (1 + p * q * m) % (p * q * (p * q))) (b := x) (by omega) (by omega)] at hc41
      exact k75 m ls (lv_sub hl [0, 1, 2, 3, 4] rfl) ((hU m (by omega)).mp hc41)
    · skip
      rw [lg_cmp_eq] at hc41
      rw [pk_lEQ (a := R0 * (1 + p * q * m) % (p * q * (p * q))) (b := x) (by omega) (by omega)] at hc41
      refine lv_lload hx hb d_M_messageIn_44 (lv_at hl 0 rfl) ?_
      refine lv_aload_n hx hb d_M_messageIn_46 rfl (lv_at hl 1 rfl) ?_
      refine va_get (D := (dC, dI)) (ci := 1) (v := .long (lN (p * q))) (C := R_M) (T := F_M) (N := 9) hx hb hts f_M hown hK hP 0 rfl rfl 0 (by decide) (hts _ (al_m aw_t207)) (fun _ h9 => h9) rfl d_M_messageIn_47 ?_
      refine W.lcmp hx hb d_M_messageIn_50 ?_
      refine lv_if_ge (tgt := 75) hx hb d_M_messageIn_51 (by decide) (fun hc51 => ?_) (fun hc51 => ?_)
      · skip
        rw [lg_cmp_ge] at hc51
        rw [pk_lLE (a := p * q) (b := m) (by omega) (by omega)] at hc51
        omega
      · skip
        rw [lg_cmp_ge] at hc51
        rw [pk_lLE (a := p * q) (b := m) (by omega) (by omega)] at hc51
        refine lv_lload hx hb d_M_messageIn_54 (lv_at hl 3 rfl) ?_
        refine lv_lload hx hb d_M_messageIn_56 (lv_at hl 4 rfl) ?_
        refine lv_ladd hx hb d_M_messageIn_58 ?_
        refine wk_l (y := lN ((R0 * (1 + p * q * m) % (p * q * (p * q))) + (R0 % (p * q * (p * q)) * (p * q) % (p * q * (p * q))))) (lN_add (R0 * (1 + p * q * m) % (p * q * (p * q))) (R0 % (p * q * (p * q)) * (p * q) % (p * q * (p * q)))) ?_
        refine lv_aload_n hx hb d_M_messageIn_59 rfl (lv_at hl 1 rfl) ?_
        refine va_get (D := (dC, dI)) (ci := 1) (v := .long (lN (p * q * (p * q)))) (C := R_M) (T := F_M) (N := 9) hx hb hts f_M hown hK hP 0 rfl rfl 1 (by decide) (hts _ (al_m aw_t208)) (fun _ h9 => h9) rfl d_M_messageIn_60 ?_
        refine lv_lrem hx hb d_M_messageIn_63 (lN_ne0 (by omega) (by omega)) ?_
        refine wk_l (y := lN (R0 * (1 + p * q * (m + 1)) % (p * q * (p * q)))) ((pk_lRem (by omega) (by omega) (by omega)).trans (congrArg lN (fa_step R0 (p * q) m))) ?_
        refine lv_lstore (lv' := [(5, .long (lN (R0 * (1 + p * q * (m + 1)) % (p * q * (p * q))))), (9, .long (lN m)), (0, .ref h1), (1, .long (lN x)), (7, .long (lN (R0 % (p * q * (p * q)) * (p * q) % (p * q * (p * q)))))]) hx hb d_M_messageIn_64 hl (by decide) rfl (fun ls hl => ?_)
        refine lv_lload hx hb d_M_messageIn_66 (lv_at hl 1 rfl) ?_
        refine lv_lconst (v := lN 1) hx hb d_M_messageIn_68 rfl ?_
        refine lv_ladd hx hb d_M_messageIn_69 ?_
        refine wk_l (y := lN (m + 1)) (lN_add m 1) ?_
        refine lv_lstore (lv' := [(9, .long (lN (m + 1))), (5, .long (lN (R0 * (1 + p * q * (m + 1)) % (p * q * (p * q))))), (0, .ref h1), (1, .long (lN x)), (7, .long (lN (R0 % (p * q * (p * q)) * (p * q) % (p * q * (p * q)))))]) hx hb d_M_messageIn_70 hl (by decide) rfl (fun ls hl => ?_)
        refine lv_goto (tgt := 37) hx hb d_M_messageIn_72 (by decide) ?_
        exact ih _ (by have hne : m ≠ M0 := fun hh => hc41 ((hU m (by omega)).mpr hh); omega) (m + 1) ls (lv_sub hl [0, 2, 3, 1, 4] rfl) (by have hne : m ≠ M0 := fun hh => hc41 ((hU m (by omega)).mpr hh); omega) rfl
end

set_option maxHeartbeats 4000000 in
set_option maxRecDepth 100000 in
theorem c_M_messageIn (l : Launch) (dC : Nat → ClassId) (dI : Nat → Nat → Nat) (h1 q1 : Nat) (cB : ClassId) (p q bx cl cd rd : Nat) (g : Nat → Nat) (x : Nat) (hk : ma_K p q) (hxn : x < p * q * (p * q)) (hx1 : x % p ≠ 0) (hx2 : x % q ≠ 0) : Met l y_M_messageIn w_M_messageIn ({ frames := 2, cells := 0, slots := 0, locals := 53 }) (va_Pc [.ref h1, .long (lN x)] (fun U => va_P (dC, dI) classes [(h1, .inr (1, [.long (lN (p * q)), .long (lN (p * q * (p * q))), .long (lN (sp_f p q)), .long (lN (sp_cex p q)), .int (nI bx), .int (nI cl), .int (nI cd), .int (nI rd), .ref q1])), (q1, .inl (cB, 30, .inr (.inl (fun j => lN (g j)))))] U.heap ∧ va_K (dC, dI) classes [(cB, .long)] U)) (qL (lN (sp_msg p q x))) 0 0 (fun _ => False) := by
  refine Met.ofW (cc := b_M_messageIn) (maxL := 11) (ret := some .long) (by decide) rfl ?_
  intro pg ev s mi args below meth co s₁ B hml hv
  obtain ⟨rfl, hP, hK⟩ := hv
  have hx := B.exec
  have hb := B.bytes
  have hr := B.returns
  have hts := atoms_spec (ws := w_M_messageIn) B.pre
  have hown : s.vm.findClass R_M = some mi.cls := findClass_of_methodNamed B.named
  have hlocks := B.notSynchronized
  have hS : va_S (fun _ => False) s.heap s.heap [] := va_S.rf
  have hP : va_P (dC, dI) classes [(h1, .inr (1, [.long (lN (p * q)), .long (lN (p * q * (p * q))), .long (lN (sp_f p q)), .long (lN (sp_cex p q)), .int (nI bx), .int (nI cl), .int (nI cd), .int (nI rd), .ref q1])), (q1, .inl (cB, 30, .inr (.inl (fun j => lN (g j)))))] s.heap := hP
  have hl := lv_entry ([.ref h1, .long (lN x)]) (n := 11) (Nat.le_of_ble_eq_true rfl)
  rw [lg_entry_eq]
  generalize (lg_sl ([.ref h1, .long (lN x)]) ++ List.replicate (11 - (lg_sl ([.ref h1, .long (lN x)])).length) Slot.unset).toArray = ls at hl ⊢
  have hl : lv_has ls 11 [(0, .ref h1), (1, .long (lN x))] := hl
  have hbg := ma_big hk
  have hp3 := hk.1.1
  have hq3 := hk.2.1.1
  have hp9 := hk.1.2.1
  have hq9 := hk.2.1.2.1
  have hkf := ma_keyf hk
  refine lv_aload_n hx hb d_M_messageIn_0 rfl (lv_at hl 0 rfl) ?_
  refine lv_lload_n hx hb d_M_messageIn_1 rfl (lv_at hl 1 rfl) ?_
  refine pu_l (va_runV (As := [.long (lN x)]) (rest := []) ⟨hx, hb, hml, hown, hts⟩ (c_M_coinIn l dC dI h1 q1 cB p q bx cl cd rd g x hk (by omega)) (cwV 1 hts (al_V (k_M_coinIn) (aw_t283) (aw_t285) (aw_p18) (aw_t2)) rfl rfl rfl (by decide +kernel) ⟨Nat.le_of_ble_eq_true rfl, Nat.le_of_ble_eq_true rfl⟩) (pu_preV (q0 := 0) (ci := 1) hK hP rfl rfl) rfl rfl hl.1 rfl (lv_room (Nat.le_of_ble_eq_true rfl)) d_M_messageIn_2 ⟨Nat.zero_le _, Nat.zero_le _⟩) hS (fun H locs hkp hS => ?_)
  have hP := hkp _ _ _ hP
  have hcl_ : sp_coin p q x < p * q := Nat.mod_lt _ (by omega)
  refine lv_lstore_n (lv' := [(3, .long (lN (sp_coin p q x))), (0, .ref h1), (1, .long (lN x))]) hx hb d_M_messageIn_5 rfl hl (by decide) rfl (fun ls hl => ?_)
  refine lv_lload_n hx hb d_M_messageIn_6 rfl (lv_at hl 0 rfl) ?_
  refine lv_aload_n hx hb d_M_messageIn_7 rfl (lv_at hl 1 rfl) ?_
  refine va_get (D := (dC, dI)) (ci := 1) (v := .long (lN (p * q))) (C := R_M) (T := F_M) (N := 9) hx hb hts f_M hown hK hP 0 rfl rfl 0 (by decide) (hts _ (al_m aw_t207)) (fun _ h9 => h9) rfl d_M_messageIn_8 ?_
  refine lv_aload_n hx hb d_M_messageIn_11 rfl (lv_at hl 1 rfl) ?_
  refine va_get (D := (dC, dI)) (ci := 1) (v := .long (lN (p * q * (p * q)))) (C := R_M) (T := F_M) (N := 9) hx hb hts f_M hown hK hP 0 rfl rfl 1 (by decide) (hts _ (al_m aw_t208)) (fun _ h9 => h9) rfl d_M_messageIn_12 ?_
  refine pu_l (va_runS (As := [.long (lN (sp_coin p q x)), .long (lN (p * q)), .long (lN (p * q * (p * q)))]) (rest := []) ⟨hx, hb, hml, hown, hts⟩ (c_M_raise l (sp_coin p q x) (p * q) (p * q * (p * q)) (by omega) (by omega) (by omega) (by omega)) (va_cwS 3 hts (al_S (k_M_raise) (aw_t266) (aw_t267) (aw_t2)) rfl rfl rfl (by decide +kernel) ⟨Nat.le_of_ble_eq_true rfl, Nat.le_of_ble_eq_true rfl⟩) pu_preS rfl rfl hl.1 rfl (lv_room (Nat.le_of_ble_eq_true rfl)) d_M_messageIn_15 ⟨Nat.zero_le _, Nat.zero_le _⟩) hS (fun H locs hkp hS => ?_)
  have hP := hkp _ _ _ hP
  obtain ⟨hM0, -, hU⟩ := fa_msg2 hk hx1 hx2 hxn
  obtain ⟨R0, hR0⟩ : ∃ R0, R0 = sp_coin p q x ^ (p * q) := ⟨_, rfl⟩
  rw [← hR0] at hU ⊢
  refine lv_lstore (lv' := [(5, .long (lN (R0 % (p * q * (p * q))))), (3, .long (lN (sp_coin p q x))), (0, .ref h1), (1, .long (lN x))]) hx hb d_M_messageIn_18 hl (by decide) rfl (fun ls hl => ?_)
  refine lv_lload hx hb d_M_messageIn_20 (lv_at hl 0 rfl) ?_
  refine lv_aload_n hx hb d_M_messageIn_22 rfl (lv_at hl 2 rfl) ?_
  refine va_get (D := (dC, dI)) (ci := 1) (v := .long (lN (p * q))) (C := R_M) (T := F_M) (N := 9) hx hb hts f_M hown hK hP 0 rfl rfl 0 (by decide) (hts _ (al_m aw_t207)) (fun _ h9 => h9) rfl d_M_messageIn_23 ?_
  refine lv_lmul hx hb d_M_messageIn_26 ?_
  refine wk_l (y := lN ((R0 % (p * q * (p * q))) * (p * q))) (lN_mul (R0 % (p * q * (p * q))) (p * q)) ?_
  refine lv_aload_n hx hb d_M_messageIn_27 rfl (lv_at hl 2 rfl) ?_
  refine va_get (D := (dC, dI)) (ci := 1) (v := .long (lN (p * q * (p * q)))) (C := R_M) (T := F_M) (N := 9) hx hb hts f_M hown hK hP 0 rfl rfl 1 (by decide) (hts _ (al_m aw_t208)) (fun _ h9 => h9) rfl d_M_messageIn_28 ?_
  refine lv_lrem hx hb d_M_messageIn_31 (lN_ne0 (by omega) (by omega)) ?_
  refine wk_l (y := lN (R0 % (p * q * (p * q)) * (p * q) % (p * q * (p * q)))) (pk_lRem (ms_lt (Nat.le_of_lt (Nat.lt_of_lt_of_le (Nat.mod_lt _ (by omega)) (by omega))) (by omega)) (by omega) (by omega)) ?_
  refine lv_lstore (lv' := [(7, .long (lN (R0 % (p * q * (p * q)) * (p * q) % (p * q * (p * q))))), (5, .long (lN (R0 % (p * q * (p * q))))), (3, .long (lN (sp_coin p q x))), (0, .ref h1), (1, .long (lN x))]) hx hb d_M_messageIn_32 hl (by decide) rfl (fun ls hl => ?_)
  refine lv_lconst (v := lN 0) hx hb d_M_messageIn_34 rfl ?_
  refine lv_lstore (lv' := [(9, .long (lN 0)), (7, .long (lN (R0 % (p * q * (p * q)) * (p * q) % (p * q * (p * q))))), (5, .long (lN (R0 % (p * q * (p * q))))), (3, .long (lN (sp_coin p q x))), (0, .ref h1), (1, .long (lN x))]) hx hb d_M_messageIn_35 hl (by decide) rfl (fun ls hl => ?_)
  have hl : lv_has ls 11 [(9, .long (lN 0)), (7, .long (lN (R0 % (p * q * (p * q)) * (p * q) % (p * q * (p * q))))), (5, .long (lN (R0 * (1 + p * q * 0) % (p * q * (p * q))))), (3, .long (lN (sp_coin p q x))), (0, .ref h1), (1, .long (lN x))] := by rw [Nat.mul_zero, Nat.add_zero, Nat.mul_one]; exact hl
  refine lp_M_messageIn_37 hx hb hts hown hK hP (by omega) (by omega) (by omega) (by omega) hxn hM0 hU (fun m ls hl hq => ?_) _ 0 ls (lv_sub hl [0, 4, 5, 2, 1] rfl) (Nat.zero_le _) rfl
  refine lv_lload hx hb d_M_messageIn_75 (lv_at hl 0 rfl) ?_
  exact pu_lret hx hb hr hS d_M_messageIn_77 hlocks (congrArg lN hq)

section
variable {pg : Program} {l : Launch} {ev : Env} {R : Room} {s : State} {mi : MethodId} {args : Array Value} {below : List Frame} {meth : Method} {co : Code} {H : Heap} {locs : List Loc} {cells slots : Nat} {Q : State → Prop}
set_option maxHeartbeats 4000000 in
set_option maxRecDepth 100000 in
theorem lp_M_place_5 {h1 q1 : Nat} {cB : ClassId} {p q bx cl cd rd : Nat} {g : Nat → Nat} (hx : pg.tables.exec = Jvm.exec) (hb : co.code = b_M_place) {w0 : Cond} {dC : Nat → ClassId} {dI : Nat → Nat → Nat} (hts : ∀ w ∈ w0 :: al_w, w.before args s = true) (hown : s.vm.findClass R_M = some mi.cls) (hK : va_K (dC, dI) classes [(cB, .long)] s) (hP : va_P (dC, dI) classes [(h1, .inr (1, [.long (lN (p * q)), .long (lN (p * q * (p * q))), .long (lN (sp_f p q)), .long (lN (sp_cex p q)), .int (nI bx), .int (nI cl), .int (nI cd), .int (nI rd), .ref q1])), (q1, .inl (cB, 30, .inr (.inl (fun j => lN (g j)))))] H) {k : Nat} (hrd : rd < 2 ^ 31) (hkk : k < 2 ^ 31) (k25 : ∀ (i : Nat) (ls : Array Slot), lv_has ls 5 [(4, .int (nI i)), (0, .ref h1), (1, .int (nI k)), (2, .long (lN (rd ^ i)))] → (i = k) → W pg l ev R s mi args below meth co H locs cells slots Q (F0 mi 25 ls [])) : ∀ (mz : Nat) (i : Nat) (ls : Array Slot), lv_has ls 5 [(4, .int (nI i)), (0, .ref h1), (1, .int (nI k)), (2, .long (lN (rd ^ i)))] → (i ≤ k) → k - i = mz → W pg l ev R s mi args below meth co H locs cells slots Q (F0 mi 5 ls []) := by
  intro mz
  induction mz using Nat.strongRecOn with
  | ind mz ih =>
    intro i ls hl h1_ hk
    subst hk
    refine lv_iload hx hb d_M_place_5 (lv_at hl 0 rfl) ?_
    refine lv_iload_n hx hb d_M_place_7 rfl (lv_at hl 2 rfl) ?_
    refine lv_icmp_ge (tgt := 25) hx hb d_M_place_8 (by decide) (fun hc8 => ?_) (fun hc8 => ?_)
    · skip
      rw [nI_leI (a := k) (b := i) (by omega) (by omega)] at hc8
      exact k25 i ls (lv_sub hl [0, 1, 2, 3] rfl) (by omega)
    · skip
      rw [nI_leI (a := k) (b := i) (by omega) (by omega)] at hc8
      refine lv_lload_n hx hb d_M_place_11 rfl (lv_at hl 3 rfl) ?_
      refine lv_aload_n hx hb d_M_place_12 rfl (lv_at hl 1 rfl) ?_
      refine va_get (D := (dC, dI)) (ci := 1) (v := .int (nI rd)) (C := R_M) (T := F_M) (N := 9) hx hb hts f_M hown hK hP 0 rfl rfl 7 (by decide) (hts _ (al_m aw_t214)) (fun _ h9 => h9) rfl d_M_place_13 ?_
      refine lv_i2l (v := lN rd) hx hb d_M_place_16 (nI_l (by omega)) ?_
      refine lv_lmul hx hb d_M_place_17 ?_
      refine wk_l (y := lN (rd ^ (i + 1))) (by rw [lN_mul, Nat.pow_succ]) ?_
      refine lv_lstore_n (lv' := [(2, .long (lN (rd ^ (i + 1)))), (4, .int (nI i)), (0, .ref h1), (1, .int (nI k))]) hx hb d_M_place_18 rfl hl (by decide) rfl (fun ls hl => ?_)
      refine lv_iinc (k := 1) (v := nI (i + 1)) (lv' := [(4, .int (nI (i + 1))), (2, .long (lN (rd ^ (i + 1)))), (0, .ref h1), (1, .int (nI k))]) hx hb d_M_place_19 hl rfl (ii_1 i) (by decide) rfl (fun ls hl => ?_)
      refine lv_goto (tgt := 5) hx hb d_M_place_22 (by decide) ?_
      exact ih _ (by omega) (i + 1) ls (lv_sub hl [0, 2, 3, 1] rfl) (by omega) rfl
end

set_option maxHeartbeats 4000000 in
set_option maxRecDepth 100000 in
theorem c_M_place (l : Launch) (dC : Nat → ClassId) (dI : Nat → Nat → Nat) (h1 q1 : Nat) (cB : ClassId) (p q bx cl cd rd : Nat) (g : Nat → Nat) (k : Nat) (hrd : rd < 2 ^ 31) (hkk : k < 2 ^ 31) : Met l y_M_place w_M_place ({ frames := 0, cells := 0, slots := 0, locals := 0 }) (va_Pc [.ref h1, .int (nI k)] (fun U => va_P (dC, dI) classes [(h1, .inr (1, [.long (lN (p * q)), .long (lN (p * q * (p * q))), .long (lN (sp_f p q)), .long (lN (sp_cex p q)), .int (nI bx), .int (nI cl), .int (nI cd), .int (nI rd), .ref q1])), (q1, .inl (cB, 30, .inr (.inl (fun j => lN (g j)))))] U.heap ∧ va_K (dC, dI) classes [(cB, .long)] U)) (qL (lN (rd ^ k))) 0 0 (fun _ => False) := by
  refine Met.ofW (cc := b_M_place) (maxL := 5) (ret := some .long) (by decide) rfl ?_
  intro pg ev s mi args below meth co s₁ B hml hv
  obtain ⟨rfl, hP, hK⟩ := hv
  have hx := B.exec
  have hb := B.bytes
  have hr := B.returns
  have hts := atoms_spec (ws := w_M_place) B.pre
  have hown : s.vm.findClass R_M = some mi.cls := findClass_of_methodNamed B.named
  have hlocks := B.notSynchronized
  have hS : va_S (fun _ => False) s.heap s.heap [] := va_S.rf
  have hP : va_P (dC, dI) classes [(h1, .inr (1, [.long (lN (p * q)), .long (lN (p * q * (p * q))), .long (lN (sp_f p q)), .long (lN (sp_cex p q)), .int (nI bx), .int (nI cl), .int (nI cd), .int (nI rd), .ref q1])), (q1, .inl (cB, 30, .inr (.inl (fun j => lN (g j)))))] s.heap := hP
  have hl := lv_entry ([.ref h1, .int (nI k)]) (n := 5) (Nat.le_of_ble_eq_true rfl)
  rw [lg_entry_eq]
  generalize (lg_sl ([.ref h1, .int (nI k)]) ++ List.replicate (5 - (lg_sl ([.ref h1, .int (nI k)])).length) Slot.unset).toArray = ls at hl ⊢
  have hl : lv_has ls 5 [(0, .ref h1), (1, .int (nI k))] := hl
  refine lv_lconst (v := lN 1) hx hb d_M_place_0 rfl ?_
  refine lv_lstore_n (lv' := [(2, .long (lN 1)), (0, .ref h1), (1, .int (nI k))]) hx hb d_M_place_1 rfl hl (by decide) rfl (fun ls hl => ?_)
  refine lv_iconst (v := nI 0) hx hb d_M_place_2 (by decide) ?_
  refine lv_istore (lv' := [(4, .int (nI 0)), (2, .long (lN 1)), (0, .ref h1), (1, .int (nI k))]) hx hb d_M_place_3 hl (by decide) rfl (fun ls hl => ?_)
  refine lp_M_place_5 hx hb hts hown hK hP hrd hkk (fun i ls hl hq => ?_) _ 0 ls (lv_sub hl [0, 2, 3, 1] rfl) (by omega) rfl
  refine lv_lload_n hx hb d_M_place_25 rfl (lv_at hl 3 rfl) ?_
  exact pu_lret hx hb hr hS d_M_place_26 hlocks (by rw [hq])

section
variable {pg : Program} {l : Launch} {ev : Env} {R : Room} {s : State} {mi : MethodId} {args : Array Value} {below : List Frame} {meth : Method} {co : Code} {H : Heap} {locs : List Loc} {cells slots : Nat} {Q : State → Prop}
set_option maxHeartbeats 4000000 in
set_option maxRecDepth 100000 in
theorem lp_M_count_4 {h1 q1 : Nat} {cB : ClassId} {p q bx cl cd rd : Nat} {g : Nat → Nat} (hx : pg.tables.exec = Jvm.exec) (hb : co.code = b_M_count) {w0 : Cond} {dC : Nat → ClassId} {dI : Nat → Nat → Nat} (hts : ∀ w ∈ w0 :: al_w, w.before args s = true) (hown : s.vm.findClass R_M = some mi.cls) (hK : va_K (dC, dI) classes [(cB, .long)] s) (hP : va_P (dC, dI) classes [(h1, .inr (1, [.long (lN (p * q)), .long (lN (p * q * (p * q))), .long (lN (sp_f p q)), .long (lN (sp_cex p q)), .int (nI bx), .int (nI cl), .int (nI cd), .int (nI rd), .ref q1])), (q1, .inl (cB, 30, .inr (.inl (fun j => lN (g j)))))] H) (hg : ∀ j, j < 30 → g j < 2 ^ 63) (k35 : ∀ (v : Nat) (i : Nat) (ls : Array Slot), lv_has ls 3 [(1, .int (nI v)), (2, .int (nI i)), (0, .ref h1)] → (v = sp_cnt g 30) → W pg l ev R s mi args below meth co H locs cells slots Q (F0 mi 35 ls [])) : ∀ (mz : Nat) (v : Nat) (i : Nat) (ls : Array Slot), lv_has ls 3 [(1, .int (nI v)), (2, .int (nI i)), (0, .ref h1)] → (i ≤ 30) → (v = sp_cnt g i) → (v ≤ i) → 30 - i = mz → W pg l ev R s mi args below meth co H locs cells slots Q (F0 mi 4 ls []) := by
  intro mz
  induction mz using Nat.strongRecOn with
  | ind mz ih =>
    intro v i ls hl h1_ h2 h3 hk
    subst hk
    refine lv_iload_n hx hb d_M_count_4 rfl (lv_at hl 1 rfl) ?_
    refine lv_bipush (v := nI 30) hx hb d_M_count_5 (by decide) ?_
    refine lv_icmp_ge (tgt := 35) hx hb d_M_count_7 (by decide) (fun hc7 => ?_) (fun hc7 => ?_)
    · skip
      rw [nI_leI (a := 30) (b := i) (by omega) (by omega)] at hc7
      exact k35 v i ls (lv_sub hl [0, 1, 2] rfl) (by have e : i = 30 := (by omega); rw [← e]; exact h2)
    · skip
      rw [nI_leI (a := 30) (b := i) (by omega) (by omega)] at hc7
      refine lv_iload_n hx hb d_M_count_10 rfl (lv_at hl 0 rfl) ?_
      refine lv_aload_n hx hb d_M_count_11 rfl (lv_at hl 2 rfl) ?_
      refine va_get (D := (dC, dI)) (ci := 1) (v := .ref q1) (C := R_M) (T := F_M) (N := 9) hx hb hts f_M hown hK hP 0 rfl rfl 8 (by decide) (hts _ (al_m aw_t215)) (fun _ h9 => h9) rfl d_M_count_12 ?_
      refine lv_iload_n hx hb d_M_count_15 rfl (lv_at hl 1 rfl) ?_
      refine va_lald hx hb hK hP 1 0 rfl rfl (vp_in_nI (by omega) (by decide)) d_M_count_16 ?_
      refine wk_l (y := lN (g i)) (by rw [nI_clamp (by omega)]) ?_
      refine lv_lconst (v := lN 0) hx hb d_M_count_17 rfl ?_
      have hgi := hg i (by omega)
      refine W.lcmp hx hb d_M_count_18 ?_
      refine lv_if_eq (tgt := 26) hx hb d_M_count_19 (by decide) (fun hc19 => ?_) (fun hc19 => ?_)
      · skip
        rw [lg_cmp_eq] at hc19
        rw [pk_lEQ (a := g i) (b := 0) (by omega) (by omega)] at hc19
        refine lv_iconst (v := nI 0) hx hb d_M_count_26 (by decide) ?_
        refine lv_iadd hx hb d_M_count_27 ?_
        refine wk_i (y := nI (v + 0)) (nI_add v 0) ?_
        refine lv_istore_n (lv' := [(1, .int (nI (v + 0))), (2, .int (nI i)), (0, .ref h1)]) hx hb d_M_count_28 rfl hl (by decide) rfl (fun ls hl => ?_)
        refine lv_iinc (k := 1) (v := nI (i + 1)) (lv' := [(2, .int (nI (i + 1))), (1, .int (nI (v + 0))), (0, .ref h1)]) hx hb d_M_count_29 hl rfl (ii_1 i) (by decide) rfl (fun ls hl => ?_)
        refine lv_goto (tgt := 4) hx hb d_M_count_32 (by decide) ?_
        exact ih _ (by omega) (v + 0) (i + 1) ls (lv_sub hl [1, 0, 2] rfl) (by omega) (by first | (simp only [sp_cnt, if_neg hc19, ← h2]; done) | (simp only [sp_cnt, if_pos hc19, ← h2]; done)) (by omega) rfl
      · skip
        rw [lg_cmp_eq] at hc19
        rw [pk_lEQ (a := g i) (b := 0) (by omega) (by omega)] at hc19
        refine lv_iconst (v := nI 1) hx hb d_M_count_22 (by decide) ?_
        refine lv_goto (tgt := 27) hx hb d_M_count_23 (by decide) ?_
        refine lv_iadd hx hb d_M_count_27 ?_
        refine wk_i (y := nI (v + 1)) (nI_add v 1) ?_
        refine lv_istore_n (lv' := [(1, .int (nI (v + 1))), (2, .int (nI i)), (0, .ref h1)]) hx hb d_M_count_28 rfl hl (by decide) rfl (fun ls hl => ?_)
        refine lv_iinc (k := 1) (v := nI (i + 1)) (lv' := [(2, .int (nI (i + 1))), (1, .int (nI (v + 1))), (0, .ref h1)]) hx hb d_M_count_29 hl rfl (ii_1 i) (by decide) rfl (fun ls hl => ?_)
        refine lv_goto (tgt := 4) hx hb d_M_count_32 (by decide) ?_
        exact ih _ (by omega) (v + 1) (i + 1) ls (lv_sub hl [1, 0, 2] rfl) (by omega) (by first | (simp only [sp_cnt, if_neg hc19, ← h2]; done) | (simp only [sp_cnt, if_pos hc19, ← h2]; done)) (by omega) rfl
end

set_option maxHeartbeats 4000000 in
set_option maxRecDepth 100000 in
theorem c_M_count (l : Launch) (dC : Nat → ClassId) (dI : Nat → Nat → Nat) (h1 q1 : Nat) (cB : ClassId) (p q bx cl cd rd : Nat) (g : Nat → Nat) (hg : ∀ j, j < 30 → g j < 2 ^ 63) : Met l y_M_count w_M_count ({ frames := 0, cells := 0, slots := 0, locals := 0 }) (va_Pc [.ref h1] (fun U => va_P (dC, dI) classes [(h1, .inr (1, [.long (lN (p * q)), .long (lN (p * q * (p * q))), .long (lN (sp_f p q)), .long (lN (sp_cex p q)), .int (nI bx), .int (nI cl), .int (nI cd), .int (nI rd), .ref q1])), (q1, .inl (cB, 30, .inr (.inl (fun j => lN (g j)))))] U.heap ∧ va_K (dC, dI) classes [(cB, .long)] U)) (qI (nI (sp_cnt g 30))) 0 0 (fun _ => False) := by
  refine Met.ofW (cc := b_M_count) (maxL := 3) (ret := some .int) (by decide) rfl ?_
  intro pg ev s mi args below meth co s₁ B hml hv
  obtain ⟨rfl, hP, hK⟩ := hv
  have hx := B.exec
  have hb := B.bytes
  have hr := B.returns
  have hts := atoms_spec (ws := w_M_count) B.pre
  have hown : s.vm.findClass R_M = some mi.cls := findClass_of_methodNamed B.named
  have hlocks := B.notSynchronized
  have hS : va_S (fun _ => False) s.heap s.heap [] := va_S.rf
  have hP : va_P (dC, dI) classes [(h1, .inr (1, [.long (lN (p * q)), .long (lN (p * q * (p * q))), .long (lN (sp_f p q)), .long (lN (sp_cex p q)), .int (nI bx), .int (nI cl), .int (nI cd), .int (nI rd), .ref q1])), (q1, .inl (cB, 30, .inr (.inl (fun j => lN (g j)))))] s.heap := hP
  have hl := lv_entry ([.ref h1]) (n := 3) (Nat.le_of_ble_eq_true rfl)
  rw [lg_entry_eq]
  generalize (lg_sl ([.ref h1]) ++ List.replicate (3 - (lg_sl ([.ref h1])).length) Slot.unset).toArray = ls at hl ⊢
  have hl : lv_has ls 3 [(0, .ref h1)] := hl
  refine lv_iconst (v := nI 0) hx hb d_M_count_0 (by decide) ?_
  refine lv_istore_n (lv' := [(1, .int (nI 0)), (0, .ref h1)]) hx hb d_M_count_1 rfl hl (by decide) rfl (fun ls hl => ?_)
  refine lv_iconst (v := nI 0) hx hb d_M_count_2 (by decide) ?_
  refine lv_istore_n (lv' := [(2, .int (nI 0)), (1, .int (nI 0)), (0, .ref h1)]) hx hb d_M_count_3 rfl hl (by decide) rfl (fun ls hl => ?_)
  refine lp_M_count_4 hx hb hts hown hK hP hg (fun v i ls hl hq => ?_) _ 0 0 ls (lv_sub hl [1, 0, 2] rfl) (by omega) (rfl) (by omega) rfl
  refine lv_iload_n hx hb d_M_count_35 rfl (lv_at hl 0 rfl) ?_
  exact pu_iret hx hb hr hS d_M_count_36 hlocks (congrArg nI hq)

section
variable {pg : Program} {l : Launch} {ev : Env} {R : Room} {s : State} {mi : MethodId} {args : Array Value} {below : List Frame} {meth : Method} {co : Code} {H : Heap} {locs : List Loc} {cells slots : Nat} {Q : State → Prop}
set_option maxHeartbeats 4000000 in
set_option maxRecDepth 100000 in
theorem lp_M_product_5 {h1 q1 : Nat} {cB : ClassId} {p q bx cl cd rd : Nat} {g : Nat → Nat} (hx : pg.tables.exec = Jvm.exec) (hb : co.code = b_M_product) {w0 : Cond} {dC : Nat → ClassId} {dI : Nat → Nat → Nat} (hts : ∀ w ∈ w0 :: al_w, w.before args s = true) (hown : s.vm.findClass R_M = some mi.cls) (hK : va_K (dC, dI) classes [(cB, .long)] s) (hP : va_P (dC, dI) classes [(h1, .inr (1, [.long (lN (p * q)), .long (lN (p * q * (p * q))), .long (lN (sp_f p q)), .long (lN (sp_cex p q)), .int (nI bx), .int (nI cl), .int (nI cd), .int (nI rd), .ref q1])), (q1, .inl (cB, 30, .inr (.inl (fun j => lN (g j)))))] H) (hn : p * q * (p * q) ≤ 2750058481) (hn1 : 1 < p * q * (p * q)) (hg : ∀ j, j < 30 → g j < p * q * (p * q)) (k44 : ∀ (x : Nat) (kk : Nat) (ls : Array Slot), lv_has ls 4 [(1, .long (lN x)), (3, .int (nI kk - 1)), (0, .ref h1)] → (x = sp_prod g 30 % (p * q * (p * q))) → W pg l ev R s mi args below meth co H locs cells slots Q (F0 mi 44 ls [])) : ∀ (mz : Nat) (x : Nat) (kk : Nat) (ls : Array Slot), lv_has ls 4 [(1, .long (lN x)), (3, .int (nI kk - 1)), (0, .ref h1)] → (kk ≤ 30) → (x < p * q * (p * q)) → (x = sp_down g (30 - kk) % (p * q * (p * q))) → kk = mz → W pg l ev R s mi args below meth co H locs cells slots Q (F0 mi 5 ls []) := by
  intro mz
  induction mz using Nat.strongRecOn with
  | ind mz ih =>
    intro x kk ls hl h1_ h2 h3 hk
    subst hk
    refine lv_iload_n hx hb d_M_product_5 rfl (lv_at hl 1 rfl) ?_
    refine lv_if_lt (tgt := 44) hx hb d_M_product_6 (by decide) (fun hc6 => ?_) (fun hc6 => ?_)
    · skip
      rw [← nI_0] at hc6
      rw [ix_lt (x := nI kk - 1) (n := 0) (by omega)] at hc6
      have hk0 : kk = 0 := dn_0 (by omega) hc6
      exact k44 x kk ls (lv_sub hl [0, 1, 2] rfl) (by rw [h3, hk0, Nat.sub_zero, fa_down30])
    · skip
      rw [← nI_0] at hc6
      rw [ix_lt (x := nI kk - 1) (n := 0) (by omega)] at hc6
      obtain ⟨j, rfl⟩ : ∃ j, kk = j + 1 := dn_s hc6
      rw [nI_pred] at hl
      have hgi := hg j (by omega)
      refine lv_aload_n hx hb d_M_product_9 rfl (lv_at hl 2 rfl) ?_
      refine va_get (D := (dC, dI)) (ci := 1) (v := .ref q1) (C := R_M) (T := F_M) (N := 9) hx hb hts f_M hown hK hP 0 rfl rfl 8 (by decide) (hts _ (al_m aw_t215)) (fun _ h9 => h9) rfl d_M_product_10 ?_
      refine lv_iload_n hx hb d_M_product_13 rfl (lv_at hl 1 rfl) ?_
      refine va_lald hx hb hK hP 1 0 rfl rfl (vp_in_nI (by omega) (by decide)) d_M_product_14 ?_
      refine wk_l (y := lN (g j)) (by rw [nI_clamp (by omega)]) ?_
      refine lv_lconst (v := lN 0) hx hb d_M_product_15 rfl ?_
      refine W.lcmp hx hb d_M_product_16 ?_
      refine lv_if_eq (tgt := 36) hx hb d_M_product_17 (by decide) (fun hc17 => ?_) (fun hc17 => ?_)
      · skip
        rw [lg_cmp_eq] at hc17
        rw [pk_lEQ (a := g j) (b := 0) (by omega) (by omega)] at hc17
        refine lv_lload_n hx hb d_M_product_36 rfl (lv_at hl 0 rfl) ?_
        refine lv_lstore_n (lv' := [(1, .long (lN x)), (3, .int (nI j)), (0, .ref h1)]) hx hb d_M_product_37 rfl hl (by decide) rfl (fun ls hl => ?_)
        refine lv_iinc (k := 1) (v := nI j - 1) (lv' := [(3, .int (nI j - 1)), (1, .long (lN x)), (0, .ref h1)]) hx hb d_M_product_38 hl rfl (dn_m j) (by decide) rfl (fun ls hl => ?_)
        refine lv_goto (tgt := 5) hx hb d_M_product_41 (by decide) ?_
        exact ih j (by omega) x j ls (lv_sub hl [1, 0, 2] rfl) (by omega) (by first | exact h2 | exact Nat.mod_lt _ (by omega)) (by first | exact dn_step1 (by omega) hc17 h3 | exact dn_step0 (by omega) hc17 h3) rfl
      · skip
        rw [lg_cmp_eq] at hc17
        rw [pk_lEQ (a := g j) (b := 0) (by omega) (by omega)] at hc17
        refine lv_lload_n hx hb d_M_product_20 rfl (lv_at hl 0 rfl) ?_
        refine lv_aload_n hx hb d_M_product_21 rfl (lv_at hl 2 rfl) ?_
        refine va_get (D := (dC, dI)) (ci := 1) (v := .ref q1) (C := R_M) (T := F_M) (N := 9) hx hb hts f_M hown hK hP 0 rfl rfl 8 (by decide) (hts _ (al_m aw_t215)) (fun _ h9 => h9) rfl d_M_product_22 ?_
        refine lv_iload_n hx hb d_M_product_25 rfl (lv_at hl 1 rfl) ?_
        refine va_lald hx hb hK hP 1 0 rfl rfl (vp_in_nI (by omega) (by decide)) d_M_product_26 ?_
        refine wk_l (y := lN (g j)) (by rw [nI_clamp (by omega)]) ?_
        refine lv_lmul hx hb d_M_product_27 ?_
        refine wk_l (y := lN (x * (g j))) (lN_mul x (g j)) ?_
        refine lv_aload_n hx hb d_M_product_28 rfl (lv_at hl 2 rfl) ?_
        refine va_get (D := (dC, dI)) (ci := 1) (v := .long (lN (p * q * (p * q)))) (C := R_M) (T := F_M) (N := 9) hx hb hts f_M hown hK hP 0 rfl rfl 1 (by decide) (hts _ (al_m aw_t208)) (fun _ h9 => h9) rfl d_M_product_29 ?_
        refine lv_lrem hx hb d_M_product_32 (lN_ne0 (by omega) (by omega)) ?_
        refine wk_l (y := lN (x * g j % (p * q * (p * q)))) (pk_lRem (rs_lt h2 hgi hn) (by omega) (by omega)) ?_
        refine lv_goto (tgt := 37) hx hb d_M_product_33 (by decide) ?_
        refine lv_lstore_n (lv' := [(1, .long (lN (x * g j % (p * q * (p * q))))), (3, .int (nI j)), (0, .ref h1)]) hx hb d_M_product_37 rfl hl (by decide) rfl (fun ls hl => ?_)
        refine lv_iinc (k := 1) (v := nI j - 1) (lv' := [(3, .int (nI j - 1)), (1, .long (lN (x * g j % (p * q * (p * q))))), (0, .ref h1)]) hx hb d_M_product_38 hl rfl (dn_m j) (by decide) rfl (fun ls hl => ?_)
        refine lv_goto (tgt := 5) hx hb d_M_product_41 (by decide) ?_
        exact ih j (by omega) (x * g j % (p * q * (p * q))) j ls (lv_sub hl [1, 0, 2] rfl) (by omega) (by first | exact h2 | exact Nat.mod_lt _ (by omega)) (by first | exact dn_step1 (by omega) hc17 h3 | exact dn_step0 (by omega) hc17 h3) rfl
end

set_option maxHeartbeats 4000000 in
set_option maxRecDepth 100000 in
theorem c_M_product (l : Launch) (dC : Nat → ClassId) (dI : Nat → Nat → Nat) (h1 q1 : Nat) (cB : ClassId) (p q bx cl cd rd : Nat) (g : Nat → Nat) (hk : ma_K p q) (hg : ∀ j, j < 30 → g j < p * q * (p * q)) : Met l y_M_product w_M_product ({ frames := 0, cells := 0, slots := 0, locals := 0 }) (va_Pc [.ref h1] (fun U => va_P (dC, dI) classes [(h1, .inr (1, [.long (lN (p * q)), .long (lN (p * q * (p * q))), .long (lN (sp_f p q)), .long (lN (sp_cex p q)), .int (nI bx), .int (nI cl), .int (nI cd), .int (nI rd), .ref q1])), (q1, .inl (cB, 30, .inr (.inl (fun j => lN (g j)))))] U.heap ∧ va_K (dC, dI) classes [(cB, .long)] U)) (qL (lN (sp_prod g 30 % (p * q * (p * q))))) 0 0 (fun _ => False) := by
  refine Met.ofW (cc := b_M_product) (maxL := 4) (ret := some .long) (by decide) rfl ?_
  intro pg ev s mi args below meth co s₁ B hml hv
  obtain ⟨rfl, hP, hK⟩ := hv
  have hx := B.exec
  have hb := B.bytes
  have hr := B.returns
  have hts := atoms_spec (ws := w_M_product) B.pre
  have hown : s.vm.findClass R_M = some mi.cls := findClass_of_methodNamed B.named
  have hlocks := B.notSynchronized
  have hS : va_S (fun _ => False) s.heap s.heap [] := va_S.rf
  have hP : va_P (dC, dI) classes [(h1, .inr (1, [.long (lN (p * q)), .long (lN (p * q * (p * q))), .long (lN (sp_f p q)), .long (lN (sp_cex p q)), .int (nI bx), .int (nI cl), .int (nI cd), .int (nI rd), .ref q1])), (q1, .inl (cB, 30, .inr (.inl (fun j => lN (g j)))))] s.heap := hP
  have hl := lv_entry ([.ref h1]) (n := 4) (Nat.le_of_ble_eq_true rfl)
  rw [lg_entry_eq]
  generalize (lg_sl ([.ref h1]) ++ List.replicate (4 - (lg_sl ([.ref h1])).length) Slot.unset).toArray = ls at hl ⊢
  have hl : lv_has ls 4 [(0, .ref h1)] := hl
  have hbg := ma_big hk
  have hp3 := hk.1.1
  have hq3 := hk.2.1.1
  have hp9 := hk.1.2.1
  have hq9 := hk.2.1.2.1
  have hkf := ma_keyf hk
  refine lv_lconst (v := lN 1) hx hb d_M_product_0 rfl ?_
  refine lv_lstore_n (lv' := [(1, .long (lN 1)), (0, .ref h1)]) hx hb d_M_product_1 rfl hl (by decide) rfl (fun ls hl => ?_)
  refine lv_bipush (v := nI 29) hx hb d_M_product_2 (by decide) ?_
  refine lv_istore_n (lv' := [(3, .int (nI 29)), (1, .long (lN 1)), (0, .ref h1)]) hx hb d_M_product_4 rfl hl (by decide) rfl (fun ls hl => ?_)
  have hl : lv_has ls 4 [(3, .int (nI 30 - 1)), (1, .long (lN 1)), (0, .ref h1)] := by rw [show (nI 29 : Int32) = nI 30 - 1 from by decide] at hl; exact hl
  refine lp_M_product_5 hx hb hts hown hK hP (by omega) (by omega) hg (fun x kk ls hl hq => ?_) _ 1 30 ls (lv_sub hl [1, 0, 2] rfl) (by omega) (by omega) (by show 1 = 1 % (p * q * (p * q)); exact (Nat.mod_eq_of_lt (by omega)).symm) rfl
  refine lv_lload_n hx hb d_M_product_44 rfl (lv_at hl 0 rfl) ?_
  exact pu_lret hx hb hr hS d_M_product_45 hlocks (congrArg lN hq)
