set_option maxHeartbeats 4000000 in
set_option maxRecDepth 100000 in
theorem c_M_modulus (l : Launch) (dC : Nat → ClassId) (dI : Nat → Nat → Nat) (h1 q1 : Nat) (cB : ClassId) (p q bx cl cd rd : Nat) (g : Nat → Nat)  : Met l y_M_modulus w_M_modulus ({ frames := 0, cells := 0, slots := 0, locals := 0 }) (va_Pc [.ref h1] (fun U => va_P (dC, dI) classes [(h1, .inr (1, [.long (lN (p * q)), .long (lN (p * q * (p * q))), .long (lN (sp_f p q)), .long (lN (sp_cex p q)), .int (nI bx), .int (nI cl), .int (nI cd), .int (nI rd), .ref q1])), (q1, .inl (cB, 30, .inr (.inl (fun j => lN (g j)))))] U.heap ∧ va_K (dC, dI) classes [(cB, .long)] U)) (qI (nI (p * q))) 0 0 (fun _ => False) := by
  refine Met.ofW (cc := b_M_modulus) (maxL := 1) (ret := some .int) (by decide) rfl ?_
  intro pg ev s mi args below meth co s₁ B hml hv
  obtain ⟨rfl, hP, hK⟩ := hv
  have hx := B.exec
  have hb := B.bytes
  have hr := B.returns
  have hts := atoms_spec (ws := w_M_modulus) B.pre
  have hown : s.vm.findClass R_M = some mi.cls := findClass_of_methodNamed B.named
  have hlocks := B.notSynchronized
  have hS : va_S (fun _ => False) s.heap s.heap [] := va_S.rf
  have hP : va_P (dC, dI) classes [(h1, .inr (1, [.long (lN (p * q)), .long (lN (p * q * (p * q))), .long (lN (sp_f p q)), .long (lN (sp_cex p q)), .int (nI bx), .int (nI cl), .int (nI cd), .int (nI rd), .ref q1])), (q1, .inl (cB, 30, .inr (.inl (fun j => lN (g j)))))] s.heap := hP
  have hl := lv_entry ([.ref h1]) (n := 1) (Nat.le_of_ble_eq_true rfl)
  rw [lg_entry_eq]
  generalize (lg_sl ([.ref h1]) ++ List.replicate (1 - (lg_sl ([.ref h1])).length) Slot.unset).toArray = ls at hl ⊢
  have hl : lv_has ls 1 [(0, .ref h1)] := hl
  refine lv_aload_n hx hb d_M_modulus_0 rfl (lv_at hl 0 rfl) ?_
  refine va_get (D := (dC, dI)) (ci := 1) (v := .long (lN (p * q))) (C := R_M) (T := F_M) (N := 9) hx hb hts f_M hown hK hP 0 rfl rfl 0 (by decide) (hts _ (al_m aw_t207)) (fun _ h9 => h9) rfl d_M_modulus_1 ?_
  refine lv_l2i (v := nI (p * q)) hx hb d_M_modulus_4 (lN_i (p * q)) ?_
  exact pu_iret hx hb hr hS d_M_modulus_5 hlocks (rfl)

set_option maxHeartbeats 4000000 in
set_option maxRecDepth 100000 in
theorem c_M_seal (l : Launch) (dC : Nat → ClassId) (dI : Nat → Nat → Nat) (h1 q1 : Nat) (cB : ClassId) (p q bx cl cd rd : Nat) (g : Nat → Nat) (x y : Int64) (cx : Nat) (hj : Jv p q cx rd g)  : Met l y_M_seal w_M_seal ({ frames := 2, cells := 0, slots := 0, locals := 57 }) (va_Pc [.ref h1, .long x, .long y] (fun U => va_P (dC, dI) classes [(h1, .inr (1, [.long (lN (p * q)), .long (lN (p * q * (p * q))), .long (lN (sp_f p q)), .long (lN (sp_cex p q)), .int (nI bx), .int (nI cl), .int (nI cd), .int (nI rd), .ref q1])), (q1, .inl (cB, 30, .inr (.inl (fun j => lN (g j)))))] U.heap ∧ va_K (dC, dI) classes [(cB, .long)] U)) (qL (an_seal p q x y)) 0 0 (fun _ => False) := by
  refine Met.ofW (cc := b_M_seal) (maxL := 5) (ret := some .long) (by decide) rfl ?_
  intro pg ev s mi args below meth co s₁ B hml hv
  obtain ⟨rfl, hP, hK⟩ := hv
  have hx := B.exec
  have hb := B.bytes
  have hr := B.returns
  have hts := atoms_spec (ws := w_M_seal) B.pre
  have hown : s.vm.findClass R_M = some mi.cls := findClass_of_methodNamed B.named
  have hlocks := B.notSynchronized
  have hS : va_S (fun _ => False) s.heap s.heap [] := va_S.rf
  have hP : va_P (dC, dI) classes [(h1, .inr (1, [.long (lN (p * q)), .long (lN (p * q * (p * q))), .long (lN (sp_f p q)), .long (lN (sp_cex p q)), .int (nI bx), .int (nI cl), .int (nI cd), .int (nI rd), .ref q1])), (q1, .inl (cB, 30, .inr (.inl (fun j => lN (g j)))))] s.heap := hP
  have hl := lv_entry ([.ref h1, .long x, .long y]) (n := 5) (Nat.le_of_ble_eq_true rfl)
  rw [lg_entry_eq]
  generalize (lg_sl ([.ref h1, .long x, .long y]) ++ List.replicate (5 - (lg_sl ([.ref h1, .long x, .long y])).length) Slot.unset).toArray = ls at hl ⊢
  have hl : lv_has ls 5 [(0, .ref h1), (1, .long x), (3, .long y)] := hl
  have hjn := jv_n hj
  refine lv_aload_n hx hb d_M_seal_0 rfl (lv_at hl 0 rfl) ?_
  refine va_get (D := (dC, dI)) (ci := 1) (v := .long (lN (p * q))) (C := R_M) (T := F_M) (N := 9) hx hb hts f_M hown hK hP 0 rfl rfl 0 (by decide) (hts _ (al_m aw_t207)) (fun _ h9 => h9) rfl d_M_seal_1 ?_
  refine lv_lconst (v := lN 0) hx hb d_M_seal_4 rfl ?_
  refine W.lcmp hx hb d_M_seal_5 ?_
  refine lv_if_ne (tgt := 13) hx hb d_M_seal_6 (by decide) (fun hc6 => ?_) (fun hc6 => ?_)
  · skip
    rw [lg_cmp_eq] at hc6
    rw [pk_lEQ (a := p * q) (b := 0) (by omega) (by omega)] at hc6
    have hp0 : p ≠ 0 := fun hh => hc6 ((jv_p0 hj).mpr hh)
    have hk := jv_key hj hp0
    have hbg := ma_big hk
    have hp3 := hk.1.1
    have hq3 := hk.2.1.1
    have hp9 := hk.1.2.1
    have hq9 := hk.2.1.2.1
    have hkf := ma_keyf hk
    refine lv_aload_n hx hb d_M_seal_13 rfl (lv_at hl 0 rfl) ?_
    refine lv_lload_n hx hb d_M_seal_14 rfl (lv_at hl 1 rfl) ?_
    refine pu_i (va_runV (As := [.long x]) (rest := []) ⟨hx, hb, hml, hown, hts⟩ (c_M_isMessage l dC dI h1 q1 cB p q bx cl cd rd g x (by omega)) (cwV 1 hts (al_V (k_M_isMessage) (aw_t251) (aw_t253) (aw_p13) (aw_t2)) rfl rfl rfl (by decide +kernel) ⟨Nat.le_of_ble_eq_true rfl, Nat.le_of_ble_eq_true rfl⟩) (pu_preV (q0 := 0) (ci := 1) hK hP rfl rfl) rfl rfl hl.1 rfl (lv_room (Nat.le_of_ble_eq_true rfl)) d_M_seal_15 ⟨Nat.zero_le _, Nat.zero_le _⟩) hS (fun H locs hkp hS => ?_)
    have hP := hkp _ _ _ hP
    refine lv_if_eq (tgt := 38) hx hb d_M_seal_18 (by decide) (fun hc18 => ?_) (fun hc18 => ?_)
    · skip
      rw [bI_0] at hc18
      refine lv_ldc2 (v := -4) hx hb hown (hts _ (al_m aw_t270)) d_M_seal_38 ?_
      exact pu_lret hx hb hr hS d_M_seal_41 hlocks (by simp [an_seal, hp0, hc18])
    · skip
      rw [bI_0] at hc18
      rw [Bool.not_eq_false] at hc18
      refine lv_aload_n hx hb d_M_seal_21 rfl (lv_at hl 0 rfl) ?_
      refine lv_lload_n hx hb d_M_seal_22 rfl (lv_at hl 2 rfl) ?_
      refine pu_i (va_runV (As := [.long y]) (rest := []) ⟨hx, hb, hml, hown, hts⟩ (c_M_isCoin l dC dI h1 q1 cB p q bx cl cd rd g y hk) (cwV 1 hts (al_V (k_M_isCoin) (aw_t255) (aw_t257) (aw_p14) (aw_t2)) rfl rfl rfl (by decide +kernel) ⟨Nat.le_of_ble_eq_true rfl, Nat.le_of_ble_eq_true rfl⟩) (pu_preV (q0 := 0) (ci := 1) hK hP rfl rfl) rfl rfl hl.1 rfl (lv_room (Nat.le_of_ble_eq_true rfl)) d_M_seal_23 ⟨Nat.zero_le _, Nat.zero_le _⟩) hS (fun H locs hkp hS => ?_)
      have hP := hkp _ _ _ hP
      refine lv_if_eq (tgt := 38) hx hb d_M_seal_26 (by decide) (fun hc26 => ?_) (fun hc26 => ?_)
      · skip
        rw [bI_0] at hc26
        refine lv_ldc2 (v := -4) hx hb hown (hts _ (al_m aw_t270)) d_M_seal_38 ?_
        exact pu_lret hx hb hr hS d_M_seal_41 hlocks (by simp [an_seal, hp0, hc18, hc26])
      · skip
        rw [bI_0] at hc26
        rw [Bool.not_eq_false] at hc26
        obtain ⟨a, ha1, ha2, rfl⟩ := sp_isM_of hc18
        obtain ⟨b, hb1, hb2, hb3, hb4, hb5, rfl⟩ := sp_isC_of hc26
        refine lv_aload_n hx hb d_M_seal_29 rfl (lv_at hl 0 rfl) ?_
        refine lv_lload_n hx hb d_M_seal_30 rfl (lv_at hl 1 rfl) ?_
        refine lv_lload_n hx hb d_M_seal_31 rfl (lv_at hl 2 rfl) ?_
        refine pu_l (va_runV (As := [.long (lN a), .long (lN b)]) (rest := []) ⟨hx, hb, hml, hown, hts⟩ (c_M_sealing l dC dI h1 q1 cB p q bx cl cd rd g a b hk ha2 hb3) (cwV 2 hts (al_V (k_M_sealing) (aw_t262) (aw_t264) (aw_p15) (aw_t2)) rfl rfl rfl (by decide +kernel) ⟨Nat.le_of_ble_eq_true rfl, Nat.le_of_ble_eq_true rfl⟩) (pu_preV (q0 := 0) (ci := 1) hK hP rfl rfl) rfl rfl hl.1 rfl (lv_room (Nat.le_of_ble_eq_true rfl)) d_M_seal_32 ⟨Nat.zero_le _, Nat.zero_le _⟩) hS (fun H locs hkp hS => ?_)
        have hP := hkp _ _ _ hP
        refine lv_goto (tgt := 41) hx hb d_M_seal_35 (by decide) ?_
        exact pu_lret hx hb hr hS d_M_seal_41 hlocks (by simp [an_seal, hp0, hc18, hc26, lx_nat ha2, lx_nat hb3])
  · skip
    rw [lg_cmp_eq] at hc6
    rw [pk_lEQ (a := p * q) (b := 0) (by omega) (by omega)] at hc6
    have hp0 : p = 0 := (jv_p0 hj).mp hc6
    refine lv_ldc2 (v := -1) hx hb hown (hts _ (al_m aw_t250)) d_M_seal_9 ?_
    exact pu_lret hx hb hr hS d_M_seal_12 hlocks (by simp [an_seal, hp0])

set_option maxHeartbeats 4000000 in
set_option maxRecDepth 100000 in
theorem c_M_message (l : Launch) (dC : Nat → ClassId) (dI : Nat → Nat → Nat) (h1 q1 : Nat) (cB : ClassId) (p q bx cl cd rd : Nat) (g : Nat → Nat) (x : Int64) (cx : Nat) (hj : Jv p q cx rd g)  : Met l y_M_message w_M_message ({ frames := 3, cells := 0, slots := 0, locals := 83 }) (va_Pc [.ref h1, .long x] (fun U => va_P (dC, dI) classes [(h1, .inr (1, [.long (lN (p * q)), .long (lN (p * q * (p * q))), .long (lN (sp_f p q)), .long (lN (sp_cex p q)), .int (nI bx), .int (nI cl), .int (nI cd), .int (nI rd), .ref q1])), (q1, .inl (cB, 30, .inr (.inl (fun j => lN (g j)))))] U.heap ∧ va_K (dC, dI) classes [(cB, .long)] U)) (qL (an_msg p q x)) 0 0 (fun _ => False) := by
  refine Met.ofW (cc := b_M_message) (maxL := 3) (ret := some .long) (by decide) rfl ?_
  intro pg ev s mi args below meth co s₁ B hml hv
  obtain ⟨rfl, hP, hK⟩ := hv
  have hx := B.exec
  have hb := B.bytes
  have hr := B.returns
  have hts := atoms_spec (ws := w_M_message) B.pre
  have hown : s.vm.findClass R_M = some mi.cls := findClass_of_methodNamed B.named
  have hlocks := B.notSynchronized
  have hS : va_S (fun _ => False) s.heap s.heap [] := va_S.rf
  have hP : va_P (dC, dI) classes [(h1, .inr (1, [.long (lN (p * q)), .long (lN (p * q * (p * q))), .long (lN (sp_f p q)), .long (lN (sp_cex p q)), .int (nI bx), .int (nI cl), .int (nI cd), .int (nI rd), .ref q1])), (q1, .inl (cB, 30, .inr (.inl (fun j => lN (g j)))))] s.heap := hP
  have hl := lv_entry ([.ref h1, .long x]) (n := 3) (Nat.le_of_ble_eq_true rfl)
  rw [lg_entry_eq]
  generalize (lg_sl ([.ref h1, .long x]) ++ List.replicate (3 - (lg_sl ([.ref h1, .long x])).length) Slot.unset).toArray = ls at hl ⊢
  have hl : lv_has ls 3 [(0, .ref h1), (1, .long x)] := hl
  have hjn := jv_n hj
  refine lv_aload_n hx hb d_M_message_0 rfl (lv_at hl 0 rfl) ?_
  refine va_get (D := (dC, dI)) (ci := 1) (v := .long (lN (p * q))) (C := R_M) (T := F_M) (N := 9) hx hb hts f_M hown hK hP 0 rfl rfl 0 (by decide) (hts _ (al_m aw_t207)) (fun _ h9 => h9) rfl d_M_message_1 ?_
  refine lv_lconst (v := lN 0) hx hb d_M_message_4 rfl ?_
  refine W.lcmp hx hb d_M_message_5 ?_
  refine lv_if_ne (tgt := 13) hx hb d_M_message_6 (by decide) (fun hc6 => ?_) (fun hc6 => ?_)
  · skip
    rw [lg_cmp_eq] at hc6
    rw [pk_lEQ (a := p * q) (b := 0) (by omega) (by omega)] at hc6
    have hp0 : p ≠ 0 := fun hh => hc6 ((jv_p0 hj).mpr hh)
    have hk := jv_key hj hp0
    have hbg := ma_big hk
    have hp3 := hk.1.1
    have hq3 := hk.2.1.1
    have hp9 := hk.1.2.1
    have hq9 := hk.2.1.2.1
    have hkf := ma_keyf hk
    refine lv_aload_n hx hb d_M_message_13 rfl (lv_at hl 0 rfl) ?_
    refine lv_lload_n hx hb d_M_message_14 rfl (lv_at hl 1 rfl) ?_
    refine pu_i (va_runV (As := [.long x]) (rest := []) ⟨hx, hb, hml, hown, hts⟩ (c_M_isSeal l dC dI h1 q1 cB p q bx cl cd rd g x hk) (cwV 1 hts (al_V (k_M_isSeal) (aw_t275) (aw_t277) (aw_p16) (aw_t2)) rfl rfl rfl (by decide +kernel) ⟨Nat.le_of_ble_eq_true rfl, Nat.le_of_ble_eq_true rfl⟩) (pu_preV (q0 := 0) (ci := 1) hK hP rfl rfl) rfl rfl hl.1 rfl (lv_room (Nat.le_of_ble_eq_true rfl)) d_M_message_15 ⟨Nat.zero_le _, Nat.zero_le _⟩) hS (fun H locs hkp hS => ?_)
    have hP := hkp _ _ _ hP
    refine lv_if_eq (tgt := 29) hx hb d_M_message_18 (by decide) (fun hc18 => ?_) (fun hc18 => ?_)
    · skip
      rw [bI_0] at hc18
      refine lv_ldc2 (v := -4) hx hb hown (hts _ (al_m aw_t270)) d_M_message_29 ?_
      exact pu_lret hx hb hr hS d_M_message_32 hlocks (by simp [an_msg, hp0, hc18])
    · skip
      rw [bI_0] at hc18
      rw [Bool.not_eq_false] at hc18
      obtain ⟨a, ha1, ha2, ha3, ha4, ha5, rfl⟩ := sp_isS_of hc18
      refine lv_aload_n hx hb d_M_message_21 rfl (lv_at hl 0 rfl) ?_
      refine lv_lload_n hx hb d_M_message_22 rfl (lv_at hl 1 rfl) ?_
      refine pu_l (va_runV (As := [.long (lN a)]) (rest := []) ⟨hx, hb, hml, hown, hts⟩ (c_M_messageIn l dC dI h1 q1 cB p q bx cl cd rd g a hk ha2 ha4 ha5) (cwV 1 hts (al_V (k_M_messageIn) (aw_t279) (aw_t281) (aw_p17) (aw_t2)) rfl rfl rfl (by decide +kernel) ⟨Nat.le_of_ble_eq_true rfl, Nat.le_of_ble_eq_true rfl⟩) (pu_preV (q0 := 0) (ci := 1) hK hP rfl rfl) rfl rfl hl.1 rfl (lv_room (Nat.le_of_ble_eq_true rfl)) d_M_message_23 ⟨Nat.zero_le _, Nat.zero_le _⟩) hS (fun H locs hkp hS => ?_)
      have hP := hkp _ _ _ hP
      refine lv_goto (tgt := 32) hx hb d_M_message_26 (by decide) ?_
      exact pu_lret hx hb hr hS d_M_message_32 hlocks (by simp [an_msg, hp0, hc18, lx_nat ha3])
  · skip
    rw [lg_cmp_eq] at hc6
    rw [pk_lEQ (a := p * q) (b := 0) (by omega) (by omega)] at hc6
    have hp0 : p = 0 := (jv_p0 hj).mp hc6
    refine lv_ldc2 (v := -1) hx hb hown (hts _ (al_m aw_t250)) d_M_message_9 ?_
    exact pu_lret hx hb hr hS d_M_message_12 hlocks (by simp [an_msg, hp0])

set_option maxHeartbeats 4000000 in
set_option maxRecDepth 100000 in
theorem c_M_coin (l : Launch) (dC : Nat → ClassId) (dI : Nat → Nat → Nat) (h1 q1 : Nat) (cB : ClassId) (p q bx cl cd rd : Nat) (g : Nat → Nat) (x : Int64) (cx : Nat) (hj : Jv p q cx rd g)  : Met l y_M_coin w_M_coin ({ frames := 2, cells := 0, slots := 0, locals := 53 }) (va_Pc [.ref h1, .long x] (fun U => va_P (dC, dI) classes [(h1, .inr (1, [.long (lN (p * q)), .long (lN (p * q * (p * q))), .long (lN (sp_f p q)), .long (lN (sp_cex p q)), .int (nI bx), .int (nI cl), .int (nI cd), .int (nI rd), .ref q1])), (q1, .inl (cB, 30, .inr (.inl (fun j => lN (g j)))))] U.heap ∧ va_K (dC, dI) classes [(cB, .long)] U)) (qL (an_coin p q x)) 0 0 (fun _ => False) := by
  refine Met.ofW (cc := b_M_coin) (maxL := 3) (ret := some .long) (by decide) rfl ?_
  intro pg ev s mi args below meth co s₁ B hml hv
  obtain ⟨rfl, hP, hK⟩ := hv
  have hx := B.exec
  have hb := B.bytes
  have hr := B.returns
  have hts := atoms_spec (ws := w_M_coin) B.pre
  have hown : s.vm.findClass R_M = some mi.cls := findClass_of_methodNamed B.named
  have hlocks := B.notSynchronized
  have hS : va_S (fun _ => False) s.heap s.heap [] := va_S.rf
  have hP : va_P (dC, dI) classes [(h1, .inr (1, [.long (lN (p * q)), .long (lN (p * q * (p * q))), .long (lN (sp_f p q)), .long (lN (sp_cex p q)), .int (nI bx), .int (nI cl), .int (nI cd), .int (nI rd), .ref q1])), (q1, .inl (cB, 30, .inr (.inl (fun j => lN (g j)))))] s.heap := hP
  have hl := lv_entry ([.ref h1, .long x]) (n := 3) (Nat.le_of_ble_eq_true rfl)
  rw [lg_entry_eq]
  generalize (lg_sl ([.ref h1, .long x]) ++ List.replicate (3 - (lg_sl ([.ref h1, .long x])).length) Slot.unset).toArray = ls at hl ⊢
  have hl : lv_has ls 3 [(0, .ref h1), (1, .long x)] := hl
  have hjn := jv_n hj
  refine lv_aload_n hx hb d_M_coin_0 rfl (lv_at hl 0 rfl) ?_
  refine va_get (D := (dC, dI)) (ci := 1) (v := .long (lN (p * q))) (C := R_M) (T := F_M) (N := 9) hx hb hts f_M hown hK hP 0 rfl rfl 0 (by decide) (hts _ (al_m aw_t207)) (fun _ h9 => h9) rfl d_M_coin_1 ?_
  refine lv_lconst (v := lN 0) hx hb d_M_coin_4 rfl ?_
  refine W.lcmp hx hb d_M_coin_5 ?_
  refine lv_if_ne (tgt := 13) hx hb d_M_coin_6 (by decide) (fun hc6 => ?_) (fun hc6 => ?_)
  · skip
    rw [lg_cmp_eq] at hc6
    rw [pk_lEQ (a := p * q) (b := 0) (by omega) (by omega)] at hc6
    have hp0 : p ≠ 0 := fun hh => hc6 ((jv_p0 hj).mpr hh)
    have hk := jv_key hj hp0
    have hbg := ma_big hk
    have hp3 := hk.1.1
    have hq3 := hk.2.1.1
    have hp9 := hk.1.2.1
    have hq9 := hk.2.1.2.1
    have hkf := ma_keyf hk
    refine lv_aload_n hx hb d_M_coin_13 rfl (lv_at hl 0 rfl) ?_
    refine lv_lload_n hx hb d_M_coin_14 rfl (lv_at hl 1 rfl) ?_
    refine pu_i (va_runV (As := [.long x]) (rest := []) ⟨hx, hb, hml, hown, hts⟩ (c_M_isSeal l dC dI h1 q1 cB p q bx cl cd rd g x hk) (cwV 1 hts (al_V (k_M_isSeal) (aw_t275) (aw_t277) (aw_p16) (aw_t2)) rfl rfl rfl (by decide +kernel) ⟨Nat.le_of_ble_eq_true rfl, Nat.le_of_ble_eq_true rfl⟩) (pu_preV (q0 := 0) (ci := 1) hK hP rfl rfl) rfl rfl hl.1 rfl (lv_room (Nat.le_of_ble_eq_true rfl)) d_M_coin_15 ⟨Nat.zero_le _, Nat.zero_le _⟩) hS (fun H locs hkp hS => ?_)
    have hP := hkp _ _ _ hP
    refine lv_if_eq (tgt := 29) hx hb d_M_coin_18 (by decide) (fun hc18 => ?_) (fun hc18 => ?_)
    · skip
      rw [bI_0] at hc18
      refine lv_ldc2 (v := -4) hx hb hown (hts _ (al_m aw_t270)) d_M_coin_29 ?_
      exact pu_lret hx hb hr hS d_M_coin_32 hlocks (by simp [an_coin, hp0, hc18])
    · skip
      rw [bI_0] at hc18
      rw [Bool.not_eq_false] at hc18
      obtain ⟨a, ha1, ha2, ha3, ha4, ha5, rfl⟩ := sp_isS_of hc18
      refine lv_aload_n hx hb d_M_coin_21 rfl (lv_at hl 0 rfl) ?_
      refine lv_lload_n hx hb d_M_coin_22 rfl (lv_at hl 1 rfl) ?_
      refine pu_l (va_runV (As := [.long (lN a)]) (rest := []) ⟨hx, hb, hml, hown, hts⟩ (c_M_coinIn l dC dI h1 q1 cB p q bx cl cd rd g a hk ha3) (cwV 1 hts (al_V (k_M_coinIn) (aw_t283) (aw_t285) (aw_p18) (aw_t2)) rfl rfl rfl (by decide +kernel) ⟨Nat.le_of_ble_eq_true rfl, Nat.le_of_ble_eq_true rfl⟩) (pu_preV (q0 := 0) (ci := 1) hK hP rfl rfl) rfl rfl hl.1 rfl (lv_room (Nat.le_of_ble_eq_true rfl)) d_M_coin_23 ⟨Nat.zero_le _, Nat.zero_le _⟩) hS (fun H locs hkp hS => ?_)
      have hP := hkp _ _ _ hP
      refine lv_goto (tgt := 32) hx hb d_M_coin_26 (by decide) ?_
      exact pu_lret hx hb hr hS d_M_coin_32 hlocks (by simp [an_coin, hp0, hc18, lx_nat ha3])
  · skip
    rw [lg_cmp_eq] at hc6
    rw [pk_lEQ (a := p * q) (b := 0) (by omega) (by omega)] at hc6
    have hp0 : p = 0 := (jv_p0 hj).mp hc6
    refine lv_ldc2 (v := -1) hx hb hown (hts _ (al_m aw_t250)) d_M_coin_9 ?_
    exact pu_lret hx hb hr hS d_M_coin_12 hlocks (by simp [an_coin, hp0])

set_option maxHeartbeats 4000000 in
set_option maxRecDepth 100000 in
theorem c_M_join (l : Launch) (dC : Nat → ClassId) (dI : Nat → Nat → Nat) (h1 q1 : Nat) (cB : ClassId) (p q bx cl cd rd : Nat) (g : Nat → Nat) (x y : Int64) (cx : Nat) (hj : Jv p q cx rd g)  : Met l y_M_join w_M_join ({ frames := 2, cells := 0, slots := 0, locals := 51 }) (va_Pc [.ref h1, .long x, .long y] (fun U => va_P (dC, dI) classes [(h1, .inr (1, [.long (lN (p * q)), .long (lN (p * q * (p * q))), .long (lN (sp_f p q)), .long (lN (sp_cex p q)), .int (nI bx), .int (nI cl), .int (nI cd), .int (nI rd), .ref q1])), (q1, .inl (cB, 30, .inr (.inl (fun j => lN (g j)))))] U.heap ∧ va_K (dC, dI) classes [(cB, .long)] U)) (qL (an_join p q x y)) 0 0 (fun _ => False) := by
  refine Met.ofW (cc := b_M_join) (maxL := 5) (ret := some .long) (by decide) rfl ?_
  intro pg ev s mi args below meth co s₁ B hml hv
  obtain ⟨rfl, hP, hK⟩ := hv
  have hx := B.exec
  have hb := B.bytes
  have hr := B.returns
  have hts := atoms_spec (ws := w_M_join) B.pre
  have hown : s.vm.findClass R_M = some mi.cls := findClass_of_methodNamed B.named
  have hlocks := B.notSynchronized
  have hS : va_S (fun _ => False) s.heap s.heap [] := va_S.rf
  have hP : va_P (dC, dI) classes [(h1, .inr (1, [.long (lN (p * q)), .long (lN (p * q * (p * q))), .long (lN (sp_f p q)), .long (lN (sp_cex p q)), .int (nI bx), .int (nI cl), .int (nI cd), .int (nI rd), .ref q1])), (q1, .inl (cB, 30, .inr (.inl (fun j => lN (g j)))))] s.heap := hP
  have hl := lv_entry ([.ref h1, .long x, .long y]) (n := 5) (Nat.le_of_ble_eq_true rfl)
  rw [lg_entry_eq]
  generalize (lg_sl ([.ref h1, .long x, .long y]) ++ List.replicate (5 - (lg_sl ([.ref h1, .long x, .long y])).length) Slot.unset).toArray = ls at hl ⊢
  have hl : lv_has ls 5 [(0, .ref h1), (1, .long x), (3, .long y)] := hl
  have hjn := jv_n hj
  refine lv_aload_n hx hb d_M_join_0 rfl (lv_at hl 0 rfl) ?_
  refine va_get (D := (dC, dI)) (ci := 1) (v := .long (lN (p * q))) (C := R_M) (T := F_M) (N := 9) hx hb hts f_M hown hK hP 0 rfl rfl 0 (by decide) (hts _ (al_m aw_t207)) (fun _ h9 => h9) rfl d_M_join_1 ?_
  refine lv_lconst (v := lN 0) hx hb d_M_join_4 rfl ?_
  refine W.lcmp hx hb d_M_join_5 ?_
  refine lv_if_ne (tgt := 13) hx hb d_M_join_6 (by decide) (fun hc6 => ?_) (fun hc6 => ?_)
  · skip
    rw [lg_cmp_eq] at hc6
    rw [pk_lEQ (a := p * q) (b := 0) (by omega) (by omega)] at hc6
    have hp0 : p ≠ 0 := fun hh => hc6 ((jv_p0 hj).mpr hh)
    have hk := jv_key hj hp0
    have hbg := ma_big hk
    have hp3 := hk.1.1
    have hq3 := hk.2.1.1
    have hp9 := hk.1.2.1
    have hq9 := hk.2.1.2.1
    have hkf := ma_keyf hk
    refine lv_aload_n hx hb d_M_join_13 rfl (lv_at hl 0 rfl) ?_
    refine lv_lload_n hx hb d_M_join_14 rfl (lv_at hl 1 rfl) ?_
    refine pu_i (va_runV (As := [.long x]) (rest := []) ⟨hx, hb, hml, hown, hts⟩ (c_M_isSeal l dC dI h1 q1 cB p q bx cl cd rd g x hk) (cwV 1 hts (al_V (k_M_isSeal) (aw_t275) (aw_t277) (aw_p16) (aw_t2)) rfl rfl rfl (by decide +kernel) ⟨Nat.le_of_ble_eq_true rfl, Nat.le_of_ble_eq_true rfl⟩) (pu_preV (q0 := 0) (ci := 1) hK hP rfl rfl) rfl rfl hl.1 rfl (lv_room (Nat.le_of_ble_eq_true rfl)) d_M_join_15 ⟨Nat.zero_le _, Nat.zero_le _⟩) hS (fun H locs hkp hS => ?_)
    have hP := hkp _ _ _ hP
    refine lv_if_eq (tgt := 40) hx hb d_M_join_18 (by decide) (fun hc18 => ?_) (fun hc18 => ?_)
    · skip
      rw [bI_0] at hc18
      refine lv_ldc2 (v := -4) hx hb hown (hts _ (al_m aw_t270)) d_M_join_40 ?_
      exact pu_lret hx hb hr hS d_M_join_43 hlocks (by simp [an_join, hp0, hc18])
    · skip
      rw [bI_0] at hc18
      rw [Bool.not_eq_false] at hc18
      refine lv_aload_n hx hb d_M_join_21 rfl (lv_at hl 0 rfl) ?_
      refine lv_lload_n hx hb d_M_join_22 rfl (lv_at hl 2 rfl) ?_
      refine pu_i (va_runV (As := [.long y]) (rest := []) ⟨hx, hb, hml, hown, hts⟩ (c_M_isSeal l dC dI h1 q1 cB p q bx cl cd rd g y hk) (cwV 1 hts (al_V (k_M_isSeal) (aw_t275) (aw_t277) (aw_p16) (aw_t2)) rfl rfl rfl (by decide +kernel) ⟨Nat.le_of_ble_eq_true rfl, Nat.le_of_ble_eq_true rfl⟩) (pu_preV (q0 := 0) (ci := 1) hK hP rfl rfl) rfl rfl hl.1 rfl (lv_room (Nat.le_of_ble_eq_true rfl)) d_M_join_23 ⟨Nat.zero_le _, Nat.zero_le _⟩) hS (fun H locs hkp hS => ?_)
      have hP := hkp _ _ _ hP
      refine lv_if_eq (tgt := 40) hx hb d_M_join_26 (by decide) (fun hc26 => ?_) (fun hc26 => ?_)
      · skip
        rw [bI_0] at hc26
        refine lv_ldc2 (v := -4) hx hb hown (hts _ (al_m aw_t270)) d_M_join_40 ?_
        exact pu_lret hx hb hr hS d_M_join_43 hlocks (by simp [an_join, hp0, hc18, hc26])
      · skip
        rw [bI_0] at hc26
        rw [Bool.not_eq_false] at hc26
        obtain ⟨a, ha1, ha2, ha3, ha4, ha5, rfl⟩ := sp_isS_of hc18
        obtain ⟨b, hb1, hb2, hb3, hb4, hb5, rfl⟩ := sp_isS_of hc26
        refine lv_lload_n hx hb d_M_join_29 rfl (lv_at hl 1 rfl) ?_
        refine lv_lload_n hx hb d_M_join_30 rfl (lv_at hl 2 rfl) ?_
        refine lv_lmul hx hb d_M_join_31 ?_
        refine wk_l (y := lN (a * b)) (lN_mul a b) ?_
        refine lv_aload_n hx hb d_M_join_32 rfl (lv_at hl 0 rfl) ?_
        refine va_get (D := (dC, dI)) (ci := 1) (v := .long (lN (p * q * (p * q)))) (C := R_M) (T := F_M) (N := 9) hx hb hts f_M hown hK hP 0 rfl rfl 1 (by decide) (hts _ (al_m aw_t208)) (fun _ h9 => h9) rfl d_M_join_33 ?_
        refine lv_lrem hx hb d_M_join_36 (lN_ne0 (by omega) (by omega)) ?_
        refine wk_l (y := lN (a * b % (p * q * (p * q)))) (pk_lRem (rs_lt ha2 hb2 (by omega)) (by omega) (by omega)) ?_
        refine lv_goto (tgt := 43) hx hb d_M_join_37 (by decide) ?_
        exact pu_lret hx hb hr hS d_M_join_43 hlocks (by simp [an_join, hp0, hc18, hc26, lx_nat ha3, lx_nat hb3])
  · skip
    rw [lg_cmp_eq] at hc6
    rw [pk_lEQ (a := p * q) (b := 0) (by omega) (by omega)] at hc6
    have hp0 : p = 0 := (jv_p0 hj).mp hc6
    refine lv_ldc2 (v := -1) hx hb hown (hts _ (al_m aw_t250)) d_M_join_9 ?_
    exact pu_lret hx hb hr hS d_M_join_12 hlocks (by simp [an_join, hp0])

set_option maxHeartbeats 4000000 in
set_option maxRecDepth 100000 in
theorem c_M_power (l : Launch) (dC : Nat → ClassId) (dI : Nat → Nat → Nat) (h1 q1 : Nat) (cB : ClassId) (p q bx cl cd rd : Nat) (g : Nat → Nat) (x : Int64) (y : Int32) (cx : Nat) (hj : Jv p q cx rd g)  : Met l y_M_power w_M_power ({ frames := 2, cells := 0, slots := 0, locals := 51 }) (va_Pc [.ref h1, .long x, .int y] (fun U => va_P (dC, dI) classes [(h1, .inr (1, [.long (lN (p * q)), .long (lN (p * q * (p * q))), .long (lN (sp_f p q)), .long (lN (sp_cex p q)), .int (nI bx), .int (nI cl), .int (nI cd), .int (nI rd), .ref q1])), (q1, .inl (cB, 30, .inr (.inl (fun j => lN (g j)))))] U.heap ∧ va_K (dC, dI) classes [(cB, .long)] U)) (qL (an_power p q x y)) 0 0 (fun _ => False) := by
  refine Met.ofW (cc := b_M_power) (maxL := 8) (ret := some .long) (by decide) rfl ?_
  intro pg ev s mi args below meth co s₁ B hml hv
  obtain ⟨rfl, hP, hK⟩ := hv
  have hx := B.exec
  have hb := B.bytes
  have hr := B.returns
  have hts := atoms_spec (ws := w_M_power) B.pre
  have hown : s.vm.findClass R_M = some mi.cls := findClass_of_methodNamed B.named
  have hlocks := B.notSynchronized
  have hS : va_S (fun _ => False) s.heap s.heap [] := va_S.rf
  have hP : va_P (dC, dI) classes [(h1, .inr (1, [.long (lN (p * q)), .long (lN (p * q * (p * q))), .long (lN (sp_f p q)), .long (lN (sp_cex p q)), .int (nI bx), .int (nI cl), .int (nI cd), .int (nI rd), .ref q1])), (q1, .inl (cB, 30, .inr (.inl (fun j => lN (g j)))))] s.heap := hP
  have hl := lv_entry ([.ref h1, .long x, .int y]) (n := 8) (Nat.le_of_ble_eq_true rfl)
  rw [lg_entry_eq]
  generalize (lg_sl ([.ref h1, .long x, .int y]) ++ List.replicate (8 - (lg_sl ([.ref h1, .long x, .int y])).length) Slot.unset).toArray = ls at hl ⊢
  have hl : lv_has ls 8 [(0, .ref h1), (1, .long x), (3, .int y)] := hl
  have hjn := jv_n hj
  refine lv_aload_n hx hb d_M_power_0 rfl (lv_at hl 0 rfl) ?_
  refine va_get (D := (dC, dI)) (ci := 1) (v := .long (lN (p * q))) (C := R_M) (T := F_M) (N := 9) hx hb hts f_M hown hK hP 0 rfl rfl 0 (by decide) (hts _ (al_m aw_t207)) (fun _ h9 => h9) rfl d_M_power_1 ?_
  refine lv_lconst (v := lN 0) hx hb d_M_power_4 rfl ?_
  refine W.lcmp hx hb d_M_power_5 ?_
  refine lv_if_ne (tgt := 13) hx hb d_M_power_6 (by decide) (fun hc6 => ?_) (fun hc6 => ?_)
  · skip
    rw [lg_cmp_eq] at hc6
    rw [pk_lEQ (a := p * q) (b := 0) (by omega) (by omega)] at hc6
    have hp0 : p ≠ 0 := fun hh => hc6 ((jv_p0 hj).mpr hh)
    have hk := jv_key hj hp0
    have hbg := ma_big hk
    have hp3 := hk.1.1
    have hq3 := hk.2.1.1
    have hp9 := hk.1.2.1
    have hq9 := hk.2.1.2.1
    have hkf := ma_keyf hk
    refine lv_aload_n hx hb d_M_power_13 rfl (lv_at hl 0 rfl) ?_
    refine lv_lload_n hx hb d_M_power_14 rfl (lv_at hl 1 rfl) ?_
    refine pu_i (va_runV (As := [.long x]) (rest := []) ⟨hx, hb, hml, hown, hts⟩ (c_M_isSeal l dC dI h1 q1 cB p q bx cl cd rd g x hk) (cwV 1 hts (al_V (k_M_isSeal) (aw_t275) (aw_t277) (aw_p16) (aw_t2)) rfl rfl rfl (by decide +kernel) ⟨Nat.le_of_ble_eq_true rfl, Nat.le_of_ble_eq_true rfl⟩) (pu_preV (q0 := 0) (ci := 1) hK hP rfl rfl) rfl rfl hl.1 rfl (lv_room (Nat.le_of_ble_eq_true rfl)) d_M_power_15 ⟨Nat.zero_le _, Nat.zero_le _⟩) hS (fun H locs hkp hS => ?_)
    have hP := hkp _ _ _ hP
    refine lv_if_ne (tgt := 25) hx hb d_M_power_18 (by decide) (fun hc18 => ?_) (fun hc18 => ?_)
    · skip
      rw [bI_0] at hc18
      rw [Bool.not_eq_false] at hc18
      obtain ⟨a, ha1, ha2, ha3, ha4, ha5, rfl⟩ := sp_isS_of hc18
      refine lv_aload_n hx hb d_M_power_25 rfl (lv_at hl 0 rfl) ?_
      refine va_get (D := (dC, dI)) (ci := 1) (v := .long (lN (p * q))) (C := R_M) (T := F_M) (N := 9) hx hb hts f_M hown hK hP 0 rfl rfl 0 (by decide) (hts _ (al_m aw_t207)) (fun _ h9 => h9) rfl d_M_power_26 ?_
      refine lv_aload_n hx hb d_M_power_29 rfl (lv_at hl 0 rfl) ?_
      refine va_get (D := (dC, dI)) (ci := 1) (v := .long (lN (sp_f p q))) (C := R_M) (T := F_M) (N := 9) hx hb hts f_M hown hK hP 0 rfl rfl 2 (by decide) (hts _ (al_m aw_t209)) (fun _ h9 => h9) rfl d_M_power_30 ?_
      refine lv_lmul hx hb d_M_power_33 ?_
      refine wk_l (y := lN ((p * q) * (sp_f p q))) (lN_mul (p * q) (sp_f p q)) ?_
      refine lv_lstore (lv' := [(4, .long (lN ((p * q) * (sp_f p q)))), (0, .ref h1), (1, .long (lN a)), (3, .int y)]) hx hb d_M_power_34 hl (by decide) rfl (fun ls hl => ?_)
      refine lv_iload_n hx hb d_M_power_36 rfl (lv_at hl 3 rfl) ?_
      refine lv_i2l (v := Int32.toInt64 y) hx hb d_M_power_37 (rfl) ?_
      refine lv_lload hx hb d_M_power_38 (lv_at hl 0 rfl) ?_
      refine lv_lrem hx hb d_M_power_40 (lN_ne0 (ex_pos hk) (Nat.lt_trans (ex_lt hk) (by decide))) ?_
      refine lv_lstore (lv' := [(6, .long ((Int32.toInt64 y) - (Int32.toInt64 y) / (lN ((p * q) * (sp_f p q))) * (lN ((p * q) * (sp_f p q))))), (4, .long (lN ((p * q) * (sp_f p q)))), (0, .ref h1), (1, .long (lN a)), (3, .int y)]) hx hb d_M_power_41 hl (by decide) rfl (fun ls hl => ?_)
      refine lv_lload_n hx hb d_M_power_43 rfl (lv_at hl 3 rfl) ?_
      refine lv_lload hx hb d_M_power_44 (lv_at hl 0 rfl) ?_
      refine lv_lconst (v := lN 0) hx hb d_M_power_46 rfl ?_
      refine W.lcmp hx hb d_M_power_47 ?_
      refine lv_if_ge (tgt := 59) hx hb d_M_power_48 (by decide) (fun hc48 => ?_) (fun hc48 => ?_)
      · skip
        rw [lg_cmp_ge] at hc48
        rw [lx_le (x := (Int32.toInt64 y) - (Int32.toInt64 y) / (lN ((p * q) * (sp_f p q))) * (lN ((p * q) * (sp_f p q)))) (n := 0) (by omega)] at hc48
        refine lv_lload hx hb d_M_power_59 (lv_at hl 0 rfl) ?_
        refine wk_l (y := lN ((y.toInt % ((p * q * sp_f p q : Nat) : Int)).toNat)) ((fm_pos (x := Int32.toInt64 y) (ex_pos hk) (ex_lt hk) (by simpa using hc48)).trans (by rw [Int32.toInt_toInt64])) ?_
        refine lv_aload_n hx hb d_M_power_61 rfl (lv_at hl 2 rfl) ?_
        refine va_get (D := (dC, dI)) (ci := 1) (v := .long (lN (p * q * (p * q)))) (C := R_M) (T := F_M) (N := 9) hx hb hts f_M hown hK hP 0 rfl rfl 1 (by decide) (hts _ (al_m aw_t208)) (fun _ h9 => h9) rfl d_M_power_62 ?_
        refine pu_l (va_runS (As := [.long (lN a), .long (lN ((y.toInt % ((p * q * sp_f p q : Nat) : Int)).toNat)), .long (lN (p * q * (p * q)))]) (rest := []) ⟨hx, hb, hml, hown, hts⟩ (c_M_raise l a ((y.toInt % ((p * q * sp_f p q : Nat) : Int)).toNat) (p * q * (p * q)) (Nat.lt_trans (ex_32 hk y) (by decide)) (by omega) (by omega) ha3) (va_cwS 3 hts (al_S (k_M_raise) (aw_t266) (aw_t267) (aw_t2)) rfl rfl rfl (by decide +kernel) ⟨Nat.le_of_ble_eq_true rfl, Nat.le_of_ble_eq_true rfl⟩) pu_preS rfl rfl hl.1 rfl (lv_room (Nat.le_of_ble_eq_true rfl)) d_M_power_65 ⟨Nat.zero_le _, Nat.zero_le _⟩) hS (fun H locs hkp hS => ?_)
        have hP := hkp _ _ _ hP
        exact pu_lret hx hb hr hS d_M_power_68 hlocks (by simp only [an_power, if_neg hp0, hc18, if_true, lx_nat ha3])
      · skip
        rw [lg_cmp_ge] at hc48
        rw [lx_le (x := (Int32.toInt64 y) - (Int32.toInt64 y) / (lN ((p * q) * (sp_f p q))) * (lN ((p * q) * (sp_f p q)))) (n := 0) (by omega)] at hc48
        refine lv_lload hx hb d_M_power_51 (lv_at hl 0 rfl) ?_
        refine lv_lload hx hb d_M_power_53 (lv_at hl 1 rfl) ?_
        refine lv_ladd hx hb d_M_power_55 ?_
        refine wk_l (y := lN ((y.toInt % ((p * q * sp_f p q : Nat) : Int)).toNat)) ((fm_neg (x := Int32.toInt64 y) (ex_pos hk) (ex_lt hk) (by simpa using hc48)).trans (by rw [Int32.toInt_toInt64])) ?_
        refine lv_goto (tgt := 61) hx hb d_M_power_56 (by decide) ?_
        refine lv_aload_n hx hb d_M_power_61 rfl (lv_at hl 2 rfl) ?_
        refine va_get (D := (dC, dI)) (ci := 1) (v := .long (lN (p * q * (p * q)))) (C := R_M) (T := F_M) (N := 9) hx hb hts f_M hown hK hP 0 rfl rfl 1 (by decide) (hts _ (al_m aw_t208)) (fun _ h9 => h9) rfl d_M_power_62 ?_
        refine pu_l (va_runS (As := [.long (lN a), .long (lN ((y.toInt % ((p * q * sp_f p q : Nat) : Int)).toNat)), .long (lN (p * q * (p * q)))]) (rest := []) ⟨hx, hb, hml, hown, hts⟩ (c_M_raise l a ((y.toInt % ((p * q * sp_f p q : Nat) : Int)).toNat) (p * q * (p * q)) (Nat.lt_trans (ex_32 hk y) (by decide)) (by omega) (by omega) ha3) (va_cwS 3 hts (al_S (k_M_raise) (aw_t266) (aw_t267) (aw_t2)) rfl rfl rfl (by decide +kernel) ⟨Nat.le_of_ble_eq_true rfl, Nat.le_of_ble_eq_true rfl⟩) pu_preS rfl rfl hl.1 rfl (lv_room (Nat.le_of_ble_eq_true rfl)) d_M_power_65 ⟨Nat.zero_le _, Nat.zero_le _⟩) hS (fun H locs hkp hS => ?_)
        have hP := hkp _ _ _ hP
        exact pu_lret hx hb hr hS d_M_power_68 hlocks (by simp only [an_power, if_neg hp0, hc18, if_true, lx_nat ha3])
    · skip
      rw [bI_0] at hc18
      refine lv_ldc2 (v := -4) hx hb hown (hts _ (al_m aw_t270)) d_M_power_21 ?_
      exact pu_lret hx hb hr hS d_M_power_24 hlocks (by simp [an_power, hp0, hc18])
  · skip
    rw [lg_cmp_eq] at hc6
    rw [pk_lEQ (a := p * q) (b := 0) (by omega) (by omega)] at hc6
    have hp0 : p = 0 := (jv_p0 hj).mp hc6
    refine lv_ldc2 (v := -1) hx hb hown (hts _ (al_m aw_t250)) d_M_power_9 ?_
    exact pu_lret hx hb hr hS d_M_power_12 hlocks (by simp [an_power, hp0])

set_option maxHeartbeats 4000000 in
set_option maxRecDepth 100000 in
theorem c_M_choice (l : Launch) (dC : Nat → ClassId) (dI : Nat → Nat → Nat) (h1 q1 : Nat) (cB : ClassId) (p q bx cl cd rd : Nat) (g : Nat → Nat) (x : Int32) (y : Int64) (cx : Nat) (hj : Jv p q cx rd g) (hrd : rd < 2 ^ 31) (hbx : bx = 0 ↔ cx = 0) (hbx1 : bx ≤ 1) (hcd : cx ≠ 0 → cd = cx) (hcl : cl ≤ 1)  : Met l y_M_choice w_M_choice ({ frames := 2, cells := 0, slots := 0, locals := 57 }) (va_Pc [.ref h1, .int x, .long y] (fun U => va_P (dC, dI) classes [(h1, .inr (1, [.long (lN (p * q)), .long (lN (p * q * (p * q))), .long (lN (sp_f p q)), .long (lN (sp_cex p q)), .int (nI bx), .int (nI cl), .int (nI cd), .int (nI rd), .ref q1])), (q1, .inl (cB, 30, .inr (.inl (fun j => lN (g j)))))] U.heap ∧ va_K (dC, dI) classes [(cB, .long)] U)) (qL (an_choice p q cx rd x y)) 0 0 (fun _ => False) := by
  refine Met.ofW (cc := b_M_choice) (maxL := 4) (ret := some .long) (by decide) rfl ?_
  intro pg ev s mi args below meth co s₁ B hml hv
  obtain ⟨rfl, hP, hK⟩ := hv
  have hx := B.exec
  have hb := B.bytes
  have hr := B.returns
  have hts := atoms_spec (ws := w_M_choice) B.pre
  have hown : s.vm.findClass R_M = some mi.cls := findClass_of_methodNamed B.named
  have hlocks := B.notSynchronized
  have hS : va_S (fun _ => False) s.heap s.heap [] := va_S.rf
  have hP : va_P (dC, dI) classes [(h1, .inr (1, [.long (lN (p * q)), .long (lN (p * q * (p * q))), .long (lN (sp_f p q)), .long (lN (sp_cex p q)), .int (nI bx), .int (nI cl), .int (nI cd), .int (nI rd), .ref q1])), (q1, .inl (cB, 30, .inr (.inl (fun j => lN (g j)))))] s.heap := hP
  have hl := lv_entry ([.ref h1, .int x, .long y]) (n := 4) (Nat.le_of_ble_eq_true rfl)
  rw [lg_entry_eq]
  generalize (lg_sl ([.ref h1, .int x, .long y]) ++ List.replicate (4 - (lg_sl ([.ref h1, .int x, .long y])).length) Slot.unset).toArray = ls at hl ⊢
  have hl : lv_has ls 4 [(0, .ref h1), (1, .int x), (2, .long y)] := hl
  have hjn := jv_n hj
  refine lv_aload_n hx hb d_M_choice_0 rfl (lv_at hl 0 rfl) ?_
  refine va_get (D := (dC, dI)) (ci := 1) (v := .int (nI bx)) (C := R_M) (T := F_M) (N := 9) hx hb hts f_M hown hK hP 0 rfl rfl 4 (by decide) (hts _ (al_m aw_t211)) (fun _ h9 => h9) rfl d_M_choice_1 ?_
  refine lv_if_ne (tgt := 11) hx hb d_M_choice_4 (by decide) (fun hc4 => ?_) (fun hc4 => ?_)
  · skip
    rw [← nI_0] at hc4
    rw [nI_eq (a := bx) (b := 0) (by omega) (by omega)] at hc4
    have hx0 : cx ≠ 0 := fun hh => hc4 (hbx.mpr hh)
    obtain ⟨hk, hx1, hx6, hr2, hrp, hgj⟩ := jv_box hj hx0
    have hcd1 := hcd hx0
    have hbg := ma_big hk
    have hp3 := hk.1.1
    have hq3 := hk.2.1.1
    have hp9 := hk.1.2.1
    have hq9 := hk.2.1.2.1
    have hkf := ma_keyf hk
    refine lv_iload_n hx hb d_M_choice_11 rfl (lv_at hl 1 rfl) ?_
    refine lv_if_lt (tgt := 31) hx hb d_M_choice_12 (by decide) (fun hc12 => ?_) (fun hc12 => ?_)
    · skip
      rw [← nI_0] at hc12
      rw [ix_lt (x := x) (n := 0) (by omega)] at hc12
      have hcb_ : sp_cand cx x = false := by simp only [sp_cand, Bool.and_eq_false_iff, decide_eq_false_iff_not]; omega
      refine lv_ldc2 (v := -4) hx hb hown (hts _ (al_m aw_t270)) d_M_choice_31 ?_
      exact pu_lret hx hb hr hS d_M_choice_34 hlocks (by simp [an_choice, hx0, hcb_])
    · skip
      rw [← nI_0] at hc12
      rw [ix_lt (x := x) (n := 0) (by omega)] at hc12
      refine lv_iload_n hx hb d_M_choice_15 rfl (lv_at hl 1 rfl) ?_
      refine lv_aload_n hx hb d_M_choice_16 rfl (lv_at hl 0 rfl) ?_
      refine va_get (D := (dC, dI)) (ci := 1) (v := .int (nI cd)) (C := R_M) (T := F_M) (N := 9) hx hb hts f_M hown hK hP 0 rfl rfl 6 (by decide) (hts _ (al_m aw_t213)) (fun _ h9 => h9) rfl d_M_choice_17 ?_
      refine lv_icmp_ge (tgt := 31) hx hb d_M_choice_20 (by decide) (fun hc20 => ?_) (fun hc20 => ?_)
      · skip
        rw [ix_le (x := x) (n := cd) (by omega)] at hc20
        have hcb_ : sp_cand cx x = false := by simp only [sp_cand, Bool.and_eq_false_iff, decide_eq_false_iff_not]; omega
        refine lv_ldc2 (v := -4) hx hb hown (hts _ (al_m aw_t270)) d_M_choice_31 ?_
        exact pu_lret hx hb hr hS d_M_choice_34 hlocks (by simp [an_choice, hx0, hcb_])
      · skip
        rw [ix_le (x := x) (n := cd) (by omega)] at hc20
        have hct : sp_cand cx x = true := by simp only [sp_cand, Bool.and_eq_true, decide_eq_true_eq]; omega
        refine lv_aload_n hx hb d_M_choice_23 rfl (lv_at hl 0 rfl) ?_
        refine lv_lload_n hx hb d_M_choice_24 rfl (lv_at hl 2 rfl) ?_
        refine pu_i (va_runV (As := [.long y]) (rest := []) ⟨hx, hb, hml, hown, hts⟩ (c_M_isCoin l dC dI h1 q1 cB p q bx cl cd rd g y hk) (cwV 1 hts (al_V (k_M_isCoin) (aw_t255) (aw_t257) (aw_p14) (aw_t2)) rfl rfl rfl (by decide +kernel) ⟨Nat.le_of_ble_eq_true rfl, Nat.le_of_ble_eq_true rfl⟩) (pu_preV (q0 := 0) (ci := 1) hK hP rfl rfl) rfl rfl hl.1 rfl (lv_room (Nat.le_of_ble_eq_true rfl)) d_M_choice_25 ⟨Nat.zero_le _, Nat.zero_le _⟩) hS (fun H locs hkp hS => ?_)
        have hP := hkp _ _ _ hP
        refine lv_if_ne (tgt := 35) hx hb d_M_choice_28 (by decide) (fun hc28 => ?_) (fun hc28 => ?_)
        · skip
          rw [bI_0] at hc28
          rw [Bool.not_eq_false] at hc28
          obtain ⟨a, ha1, ha2, rfl⟩ := sp_cand_of hct
          obtain ⟨b, hb1, hb2, hb3, hb4, hb5, rfl⟩ := sp_isC_of hc28
          refine lv_aload_n hx hb d_M_choice_35 rfl (lv_at hl 0 rfl) ?_
          refine lv_aload_n hx hb d_M_choice_36 rfl (lv_at hl 0 rfl) ?_
          refine lv_iload_n hx hb d_M_choice_37 rfl (lv_at hl 1 rfl) ?_
          refine pu_l (va_runV (As := [.int (nI a)]) (rest := [.ref h1]) ⟨hx, hb, hml, hown, hts⟩ (c_M_place l dC dI h1 q1 cB p q bx cl cd rd g a hrd ha2) (cwV 1 hts (al_V (k_M_place) (aw_t308) (aw_t310) (aw_p19) (aw_t2)) rfl rfl rfl (by decide +kernel) ⟨Nat.le_of_ble_eq_true rfl, Nat.le_of_ble_eq_true rfl⟩) (pu_preV (q0 := 0) (ci := 1) hK hP rfl rfl) rfl rfl hl.1 rfl (lv_room (Nat.le_of_ble_eq_true rfl)) d_M_choice_38 ⟨Nat.zero_le _, Nat.zero_le _⟩) hS (fun H locs hkp hS => ?_)
          have hP := hkp _ _ _ hP
          refine lv_lload_n hx hb d_M_choice_41 rfl (lv_at hl 2 rfl) ?_
          refine pu_l (va_runV (As := [.long (lN (rd ^ a)), .long (lN b)]) (rest := []) ⟨hx, hb, hml, hown, hts⟩ (c_M_sealing l dC dI h1 q1 cB p q bx cl cd rd g (rd ^ a) b hk (Nat.lt_trans (rp_lt ha1 hr2 hrp) (by omega)) hb3) (cwV 2 hts (al_V (k_M_sealing) (aw_t262) (aw_t264) (aw_p15) (aw_t2)) rfl rfl rfl (by decide +kernel) ⟨Nat.le_of_ble_eq_true rfl, Nat.le_of_ble_eq_true rfl⟩) (pu_preV (q0 := 0) (ci := 1) hK hP rfl rfl) rfl rfl hl.1 rfl (lv_room (Nat.le_of_ble_eq_true rfl)) d_M_choice_42 ⟨Nat.zero_le _, Nat.zero_le _⟩) hS (fun H locs hkp hS => ?_)
          have hP := hkp _ _ _ hP
          exact pu_lret hx hb hr hS d_M_choice_45 hlocks (by simp [an_choice, hx0, hct, hc28, ix_nat ha2, lx_nat hb3])
        · skip
          rw [bI_0] at hc28
          refine lv_ldc2 (v := -4) hx hb hown (hts _ (al_m aw_t270)) d_M_choice_31 ?_
          exact pu_lret hx hb hr hS d_M_choice_34 hlocks (by simp [an_choice, hx0, hct, hc28])
  · skip
    rw [← nI_0] at hc4
    rw [nI_eq (a := bx) (b := 0) (by omega) (by omega)] at hc4
    have hx0 : cx = 0 := hbx.mp hc4
    refine lv_ldc2 (v := -2) hx hb hown (hts _ (al_m aw_t307)) d_M_choice_7 ?_
    exact pu_lret hx hb hr hS d_M_choice_10 hlocks (by simp [an_choice, hx0])

set_option maxHeartbeats 4000000 in
set_option maxRecDepth 100000 in
theorem c_M_ballot (l : Launch) (dC : Nat → ClassId) (dI : Nat → Nat → Nat) (h1 q1 : Nat) (cB : ClassId) (p q bx cl cd rd : Nat) (g : Nat → Nat) (x : Int32) (cx : Nat) (hj : Jv p q cx rd g) (hrd : rd < 2 ^ 31) (hbx : bx = 0 ↔ cx = 0) (hbx1 : bx ≤ 1) (hcd : cx ≠ 0 → cd = cx) (hcl : cl ≤ 1)  : Met l y_M_ballot w_M_ballot ({ frames := 0, cells := 0, slots := 0, locals := 0 }) (va_Pc [.ref h1, .int x] (fun U => va_P (dC, dI) classes [(h1, .inr (1, [.long (lN (p * q)), .long (lN (p * q * (p * q))), .long (lN (sp_f p q)), .long (lN (sp_cex p q)), .int (nI bx), .int (nI cl), .int (nI cd), .int (nI rd), .ref q1])), (q1, .inl (cB, 30, .inr (.inl (fun j => lN (g j)))))] U.heap ∧ va_K (dC, dI) classes [(cB, .long)] U)) (qL (an_ballot cx g x)) 0 0 (fun _ => False) := by
  refine Met.ofW (cc := b_M_ballot) (maxL := 2) (ret := some .long) (by decide) rfl ?_
  intro pg ev s mi args below meth co s₁ B hml hv
  obtain ⟨rfl, hP, hK⟩ := hv
  have hx := B.exec
  have hb := B.bytes
  have hr := B.returns
  have hts := atoms_spec (ws := w_M_ballot) B.pre
  have hown : s.vm.findClass R_M = some mi.cls := findClass_of_methodNamed B.named
  have hlocks := B.notSynchronized
  have hS : va_S (fun _ => False) s.heap s.heap [] := va_S.rf
  have hP : va_P (dC, dI) classes [(h1, .inr (1, [.long (lN (p * q)), .long (lN (p * q * (p * q))), .long (lN (sp_f p q)), .long (lN (sp_cex p q)), .int (nI bx), .int (nI cl), .int (nI cd), .int (nI rd), .ref q1])), (q1, .inl (cB, 30, .inr (.inl (fun j => lN (g j)))))] s.heap := hP
  have hl := lv_entry ([.ref h1, .int x]) (n := 2) (Nat.le_of_ble_eq_true rfl)
  rw [lg_entry_eq]
  generalize (lg_sl ([.ref h1, .int x]) ++ List.replicate (2 - (lg_sl ([.ref h1, .int x])).length) Slot.unset).toArray = ls at hl ⊢
  have hl : lv_has ls 2 [(0, .ref h1), (1, .int x)] := hl
  have hjn := jv_n hj
  refine lv_aload_n hx hb d_M_ballot_0 rfl (lv_at hl 0 rfl) ?_
  refine va_get (D := (dC, dI)) (ci := 1) (v := .int (nI bx)) (C := R_M) (T := F_M) (N := 9) hx hb hts f_M hown hK hP 0 rfl rfl 4 (by decide) (hts _ (al_m aw_t211)) (fun _ h9 => h9) rfl d_M_ballot_1 ?_
  refine lv_if_ne (tgt := 11) hx hb d_M_ballot_4 (by decide) (fun hc4 => ?_) (fun hc4 => ?_)
  · skip
    rw [← nI_0] at hc4
    rw [nI_eq (a := bx) (b := 0) (by omega) (by omega)] at hc4
    have hx0 : cx ≠ 0 := fun hh => hc4 (hbx.mpr hh)
    obtain ⟨hk, hx1, hx6, hr2, hrp, hgj⟩ := jv_box hj hx0
    have hcd1 := hcd hx0
    have hbg := ma_big hk
    have hp3 := hk.1.1
    have hq3 := hk.2.1.1
    have hp9 := hk.1.2.1
    have hq9 := hk.2.1.2.1
    have hkf := ma_keyf hk
    refine lv_iload_n hx hb d_M_ballot_11 rfl (lv_at hl 1 rfl) ?_
    refine lv_if_lt (tgt := 21) hx hb d_M_ballot_12 (by decide) (fun hc12 => ?_) (fun hc12 => ?_)
    · skip
      rw [← nI_0] at hc12
      rw [ix_lt (x := x) (n := 0) (by omega)] at hc12
      have hcb_ : sp_cand 30 x = false := by simp only [sp_cand, Bool.and_eq_false_iff, decide_eq_false_iff_not]; omega
      refine lv_ldc2 (v := -4) hx hb hown (hts _ (al_m aw_t270)) d_M_ballot_21 ?_
      exact pu_lret hx hb hr hS d_M_ballot_24 hlocks (by simp [an_ballot, hx0, hcb_])
    · skip
      rw [← nI_0] at hc12
      rw [ix_lt (x := x) (n := 0) (by omega)] at hc12
      refine lv_iload_n hx hb d_M_ballot_15 rfl (lv_at hl 1 rfl) ?_
      refine lv_bipush (v := nI 29) hx hb d_M_ballot_16 (by decide) ?_
      refine lv_icmp_le (tgt := 25) hx hb d_M_ballot_18 (by decide) (fun hc18 => ?_) (fun hc18 => ?_)
      · skip
        rw [ix_ge (x := x) (n := 29) (by omega)] at hc18
        have hct : sp_cand 30 x = true := by simp only [sp_cand, Bool.and_eq_true, decide_eq_true_eq]; omega
        obtain ⟨a, ha1, ha2, rfl⟩ := sp_cand_of hct
        have hga := (hgj a ha1).1
        refine lv_aload_n hx hb d_M_ballot_25 rfl (lv_at hl 0 rfl) ?_
        refine va_get (D := (dC, dI)) (ci := 1) (v := .ref q1) (C := R_M) (T := F_M) (N := 9) hx hb hts f_M hown hK hP 0 rfl rfl 8 (by decide) (hts _ (al_m aw_t215)) (fun _ h9 => h9) rfl d_M_ballot_26 ?_
        refine lv_iload_n hx hb d_M_ballot_29 rfl (lv_at hl 1 rfl) ?_
        refine va_lald hx hb hK hP 1 0 rfl rfl (vp_in_nI (by omega) (by decide)) d_M_ballot_30 ?_
        refine wk_l (y := lN (g a)) (by rw [nI_clamp (by omega)]) ?_
        refine lv_lconst (v := lN 0) hx hb d_M_ballot_31 rfl ?_
        refine W.lcmp hx hb d_M_ballot_32 ?_
        refine lv_if_ne (tgt := 42) hx hb d_M_ballot_33 (by decide) (fun hc33 => ?_) (fun hc33 => ?_)
        · skip
          rw [lg_cmp_eq] at hc33
          rw [pk_lEQ (a := g a) (b := 0) (by omega) (by omega)] at hc33
          refine lv_aload_n hx hb d_M_ballot_42 rfl (lv_at hl 0 rfl) ?_
          refine va_get (D := (dC, dI)) (ci := 1) (v := .ref q1) (C := R_M) (T := F_M) (N := 9) hx hb hts f_M hown hK hP 0 rfl rfl 8 (by decide) (hts _ (al_m aw_t215)) (fun _ h9 => h9) rfl d_M_ballot_43 ?_
          refine lv_iload_n hx hb d_M_ballot_46 rfl (lv_at hl 1 rfl) ?_
          refine va_lald hx hb hK hP 1 0 rfl rfl (vp_in_nI (by omega) (by decide)) d_M_ballot_47 ?_
          refine wk_l (y := lN (g a)) (by rw [nI_clamp (by omega)]) ?_
          exact pu_lret hx hb hr hS d_M_ballot_48 hlocks (by simp [an_ballot, hx0, hct, hc33, ix_nat ha2])
        · skip
          rw [lg_cmp_eq] at hc33
          rw [pk_lEQ (a := g a) (b := 0) (by omega) (by omega)] at hc33
          refine lv_ldc2 (v := -6) hx hb hown (hts _ (al_m aw_t325)) d_M_ballot_36 ?_
          refine lv_goto (tgt := 48) hx hb d_M_ballot_39 (by decide) ?_
          exact pu_lret hx hb hr hS d_M_ballot_48 hlocks (by simp [an_ballot, hx0, hct, hc33, ix_nat ha2])
      · skip
        rw [ix_ge (x := x) (n := 29) (by omega)] at hc18
        have hcb_ : sp_cand 30 x = false := by simp only [sp_cand, Bool.and_eq_false_iff, decide_eq_false_iff_not]; omega
        refine lv_ldc2 (v := -4) hx hb hown (hts _ (al_m aw_t270)) d_M_ballot_21 ?_
        exact pu_lret hx hb hr hS d_M_ballot_24 hlocks (by simp [an_ballot, hx0, hcb_])
  · skip
    rw [← nI_0] at hc4
    rw [nI_eq (a := bx) (b := 0) (by omega) (by omega)] at hc4
    have hx0 : cx = 0 := hbx.mp hc4
    refine lv_ldc2 (v := -2) hx hb hown (hts _ (al_m aw_t307)) d_M_ballot_7 ?_
    exact pu_lret hx hb hr hS d_M_ballot_10 hlocks (by simp [an_ballot, hx0])

set_option maxHeartbeats 4000000 in
set_option maxRecDepth 100000 in
theorem c_M_ballots (l : Launch) (dC : Nat → ClassId) (dI : Nat → Nat → Nat) (h1 q1 : Nat) (cB : ClassId) (p q bx cl cd rd : Nat) (g : Nat → Nat) (cx : Nat) (hj : Jv p q cx rd g) (hrd : rd < 2 ^ 31) (hbx : bx = 0 ↔ cx = 0) (hbx1 : bx ≤ 1) (hcd : cx ≠ 0 → cd = cx) (hcl : cl ≤ 1)  : Met l y_M_ballots w_M_ballots ({ frames := 1, cells := 0, slots := 0, locals := 22 }) (va_Pc [.ref h1] (fun U => va_P (dC, dI) classes [(h1, .inr (1, [.long (lN (p * q)), .long (lN (p * q * (p * q))), .long (lN (sp_f p q)), .long (lN (sp_cex p q)), .int (nI bx), .int (nI cl), .int (nI cd), .int (nI rd), .ref q1])), (q1, .inl (cB, 30, .inr (.inl (fun j => lN (g j)))))] U.heap ∧ va_K (dC, dI) classes [(cB, .long)] U)) (qI (an_ballots cx g)) 0 0 (fun _ => False) := by
  refine Met.ofW (cc := b_M_ballots) (maxL := 1) (ret := some .int) (by decide) rfl ?_
  intro pg ev s mi args below meth co s₁ B hml hv
  obtain ⟨rfl, hP, hK⟩ := hv
  have hx := B.exec
  have hb := B.bytes
  have hr := B.returns
  have hts := atoms_spec (ws := w_M_ballots) B.pre
  have hown : s.vm.findClass R_M = some mi.cls := findClass_of_methodNamed B.named
  have hlocks := B.notSynchronized
  have hS : va_S (fun _ => False) s.heap s.heap [] := va_S.rf
  have hP : va_P (dC, dI) classes [(h1, .inr (1, [.long (lN (p * q)), .long (lN (p * q * (p * q))), .long (lN (sp_f p q)), .long (lN (sp_cex p q)), .int (nI bx), .int (nI cl), .int (nI cd), .int (nI rd), .ref q1])), (q1, .inl (cB, 30, .inr (.inl (fun j => lN (g j)))))] s.heap := hP
  have hl := lv_entry ([.ref h1]) (n := 1) (Nat.le_of_ble_eq_true rfl)
  rw [lg_entry_eq]
  generalize (lg_sl ([.ref h1]) ++ List.replicate (1 - (lg_sl ([.ref h1])).length) Slot.unset).toArray = ls at hl ⊢
  have hl : lv_has ls 1 [(0, .ref h1)] := hl
  have hjn := jv_n hj
  refine lv_aload_n hx hb d_M_ballots_0 rfl (lv_at hl 0 rfl) ?_
  refine va_get (D := (dC, dI)) (ci := 1) (v := .int (nI bx)) (C := R_M) (T := F_M) (N := 9) hx hb hts f_M hown hK hP 0 rfl rfl 4 (by decide) (hts _ (al_m aw_t211)) (fun _ h9 => h9) rfl d_M_ballots_1 ?_
  refine lv_if_eq (tgt := 14) hx hb d_M_ballots_4 (by decide) (fun hc4 => ?_) (fun hc4 => ?_)
  · skip
    rw [← nI_0] at hc4
    rw [nI_eq (a := bx) (b := 0) (by omega) (by omega)] at hc4
    have hx0 : cx = 0 := hbx.mp hc4
    refine lv_bipush (v := -2) hx hb d_M_ballots_14 (by decide) ?_
    exact pu_iret hx hb hr hS d_M_ballots_16 hlocks (by simp [an_ballots, hx0])
  · skip
    rw [← nI_0] at hc4
    rw [nI_eq (a := bx) (b := 0) (by omega) (by omega)] at hc4
    have hx0 : cx ≠ 0 := fun hh => hc4 (hbx.mpr hh)
    obtain ⟨hk, hx1, hx6, hr2, hrp, hgj⟩ := jv_box hj hx0
    have hcd1 := hcd hx0
    have hbg := ma_big hk
    have hp3 := hk.1.1
    have hq3 := hk.2.1.1
    have hp9 := hk.1.2.1
    have hq9 := hk.2.1.2.1
    have hkf := ma_keyf hk
    refine lv_aload_n hx hb d_M_ballots_7 rfl (lv_at hl 0 rfl) ?_
    refine pu_i (va_runV (As := []) (rest := []) ⟨hx, hb, hml, hown, hts⟩ (c_M_count l dC dI h1 q1 cB p q bx cl cd rd g (fun j hj0 => Nat.lt_of_lt_of_le (hgj j hj0).1 (by omega))) (cwV 0 hts (al_V (k_M_count) (aw_t316) (aw_t318) (aw_p20) (aw_t2)) rfl rfl rfl (by decide +kernel) ⟨Nat.le_of_ble_eq_true rfl, Nat.le_of_ble_eq_true rfl⟩) (pu_preV (q0 := 0) (ci := 1) hK hP rfl rfl) rfl rfl hl.1 rfl (lv_room (Nat.le_of_ble_eq_true rfl)) d_M_ballots_8 ⟨Nat.zero_le _, Nat.zero_le _⟩) hS (fun H locs hkp hS => ?_)
    have hP := hkp _ _ _ hP
    refine lv_goto (tgt := 16) hx hb d_M_ballots_11 (by decide) ?_
    exact pu_iret hx hb hr hS d_M_ballots_16 hlocks (by simp [an_ballots, hx0])

set_option maxHeartbeats 4000000 in
set_option maxRecDepth 100000 in
theorem c_M_sum (l : Launch) (dC : Nat → ClassId) (dI : Nat → Nat → Nat) (h1 q1 : Nat) (cB : ClassId) (p q bx cl cd rd : Nat) (g : Nat → Nat) (cx : Nat) (hj : Jv p q cx rd g) (hrd : rd < 2 ^ 31) (hbx : bx = 0 ↔ cx = 0) (hbx1 : bx ≤ 1) (hcd : cx ≠ 0 → cd = cx) (hcl : cl ≤ 1)  : Met l y_M_sum w_M_sum ({ frames := 1, cells := 0, slots := 0, locals := 23 }) (va_Pc [.ref h1] (fun U => va_P (dC, dI) classes [(h1, .inr (1, [.long (lN (p * q)), .long (lN (p * q * (p * q))), .long (lN (sp_f p q)), .long (lN (sp_cex p q)), .int (nI bx), .int (nI cl), .int (nI cd), .int (nI rd), .ref q1])), (q1, .inl (cB, 30, .inr (.inl (fun j => lN (g j)))))] U.heap ∧ va_K (dC, dI) classes [(cB, .long)] U)) (qL (an_sum p q cx g)) 0 0 (fun _ => False) := by
  refine Met.ofW (cc := b_M_sum) (maxL := 1) (ret := some .long) (by decide) rfl ?_
  intro pg ev s mi args below meth co s₁ B hml hv
  obtain ⟨rfl, hP, hK⟩ := hv
  have hx := B.exec
  have hb := B.bytes
  have hr := B.returns
  have hts := atoms_spec (ws := w_M_sum) B.pre
  have hown : s.vm.findClass R_M = some mi.cls := findClass_of_methodNamed B.named
  have hlocks := B.notSynchronized
  have hS : va_S (fun _ => False) s.heap s.heap [] := va_S.rf
  have hP : va_P (dC, dI) classes [(h1, .inr (1, [.long (lN (p * q)), .long (lN (p * q * (p * q))), .long (lN (sp_f p q)), .long (lN (sp_cex p q)), .int (nI bx), .int (nI cl), .int (nI cd), .int (nI rd), .ref q1])), (q1, .inl (cB, 30, .inr (.inl (fun j => lN (g j)))))] s.heap := hP
  have hl := lv_entry ([.ref h1]) (n := 1) (Nat.le_of_ble_eq_true rfl)
  rw [lg_entry_eq]
  generalize (lg_sl ([.ref h1]) ++ List.replicate (1 - (lg_sl ([.ref h1])).length) Slot.unset).toArray = ls at hl ⊢
  have hl : lv_has ls 1 [(0, .ref h1)] := hl
  have hjn := jv_n hj
  refine lv_aload_n hx hb d_M_sum_0 rfl (lv_at hl 0 rfl) ?_
  refine va_get (D := (dC, dI)) (ci := 1) (v := .int (nI bx)) (C := R_M) (T := F_M) (N := 9) hx hb hts f_M hown hK hP 0 rfl rfl 4 (by decide) (hts _ (al_m aw_t211)) (fun _ h9 => h9) rfl d_M_sum_1 ?_
  refine lv_if_eq (tgt := 14) hx hb d_M_sum_4 (by decide) (fun hc4 => ?_) (fun hc4 => ?_)
  · skip
    rw [← nI_0] at hc4
    rw [nI_eq (a := bx) (b := 0) (by omega) (by omega)] at hc4
    have hx0 : cx = 0 := hbx.mp hc4
    refine lv_ldc2 (v := -2) hx hb hown (hts _ (al_m aw_t307)) d_M_sum_14 ?_
    exact pu_lret hx hb hr hS d_M_sum_17 hlocks (by simp [an_sum, hx0])
  · skip
    rw [← nI_0] at hc4
    rw [nI_eq (a := bx) (b := 0) (by omega) (by omega)] at hc4
    have hx0 : cx ≠ 0 := fun hh => hc4 (hbx.mpr hh)
    obtain ⟨hk, hx1, hx6, hr2, hrp, hgj⟩ := jv_box hj hx0
    have hcd1 := hcd hx0
    have hbg := ma_big hk
    have hp3 := hk.1.1
    have hq3 := hk.2.1.1
    have hp9 := hk.1.2.1
    have hq9 := hk.2.1.2.1
    have hkf := ma_keyf hk
    refine lv_aload_n hx hb d_M_sum_7 rfl (lv_at hl 0 rfl) ?_
    refine pu_l (va_runV (As := []) (rest := []) ⟨hx, hb, hml, hown, hts⟩ (c_M_product l dC dI h1 q1 cB p q bx cl cd rd g hk (fun j hj0 => (hgj j hj0).1)) (cwV 0 hts (al_V (k_M_product) (aw_t338) (aw_t340) (aw_p21) (aw_t2)) rfl rfl rfl (by decide +kernel) ⟨Nat.le_of_ble_eq_true rfl, Nat.le_of_ble_eq_true rfl⟩) (pu_preV (q0 := 0) (ci := 1) hK hP rfl rfl) rfl rfl hl.1 rfl (lv_room (Nat.le_of_ble_eq_true rfl)) d_M_sum_8 ⟨Nat.zero_le _, Nat.zero_le _⟩) hS (fun H locs hkp hS => ?_)
    have hP := hkp _ _ _ hP
    refine lv_goto (tgt := 17) hx hb d_M_sum_11 (by decide) ?_
    exact pu_lret hx hb hr hS d_M_sum_17 hlocks (by simp [an_sum, hx0])

set_option maxHeartbeats 4000000 in
set_option maxRecDepth 100000 in
theorem c_M_votes (l : Launch) (dC : Nat → ClassId) (dI : Nat → Nat → Nat) (h1 q1 : Nat) (cB : ClassId) (p q bx cl cd rd : Nat) (g : Nat → Nat) (x : Int32) (cx : Nat) (hj : Jv p q cx rd g) (hrd : rd < 2 ^ 31) (hbx : bx = 0 ↔ cx = 0) (hbx1 : bx ≤ 1) (hcd : cx ≠ 0 → cd = cx) (hcl : cl ≤ 1)  : Met l y_M_votes w_M_votes ({ frames := 3, cells := 0, slots := 0, locals := 83 }) (va_Pc [.ref h1, .int x] (fun U => va_P (dC, dI) classes [(h1, .inr (1, [.long (lN (p * q)), .long (lN (p * q * (p * q))), .long (lN (sp_f p q)), .long (lN (sp_cex p q)), .int (nI bx), .int (nI cl), .int (nI cd), .int (nI rd), .ref q1])), (q1, .inl (cB, 30, .inr (.inl (fun j => lN (g j)))))] U.heap ∧ va_K (dC, dI) classes [(cB, .long)] U)) (qI (an_votes p q cx rd cl g x)) 0 0 (fun _ => False) := by
  refine Met.ofW (cc := b_M_votes) (maxL := 4) (ret := some .int) (by decide) rfl ?_
  intro pg ev s mi args below meth co s₁ B hml hv
  obtain ⟨rfl, hP, hK⟩ := hv
  have hx := B.exec
  have hb := B.bytes
  have hr := B.returns
  have hts := atoms_spec (ws := w_M_votes) B.pre
  have hown : s.vm.findClass R_M = some mi.cls := findClass_of_methodNamed B.named
  have hlocks := B.notSynchronized
  have hS : va_S (fun _ => False) s.heap s.heap [] := va_S.rf
  have hP : va_P (dC, dI) classes [(h1, .inr (1, [.long (lN (p * q)), .long (lN (p * q * (p * q))), .long (lN (sp_f p q)), .long (lN (sp_cex p q)), .int (nI bx), .int (nI cl), .int (nI cd), .int (nI rd), .ref q1])), (q1, .inl (cB, 30, .inr (.inl (fun j => lN (g j)))))] s.heap := hP
  have hl := lv_entry ([.ref h1, .int x]) (n := 4) (Nat.le_of_ble_eq_true rfl)
  rw [lg_entry_eq]
  generalize (lg_sl ([.ref h1, .int x]) ++ List.replicate (4 - (lg_sl ([.ref h1, .int x])).length) Slot.unset).toArray = ls at hl ⊢
  have hl : lv_has ls 4 [(0, .ref h1), (1, .int x)] := hl
  have hjn := jv_n hj
  refine lv_aload_n hx hb d_M_votes_0 rfl (lv_at hl 0 rfl) ?_
  refine va_get (D := (dC, dI)) (ci := 1) (v := .int (nI bx)) (C := R_M) (T := F_M) (N := 9) hx hb hts f_M hown hK hP 0 rfl rfl 4 (by decide) (hts _ (al_m aw_t211)) (fun _ h9 => h9) rfl d_M_votes_1 ?_
  refine lv_if_ne (tgt := 10) hx hb d_M_votes_4 (by decide) (fun hc4 => ?_) (fun hc4 => ?_)
  · skip
    rw [← nI_0] at hc4
    rw [nI_eq (a := bx) (b := 0) (by omega) (by omega)] at hc4
    have hx0 : cx ≠ 0 := fun hh => hc4 (hbx.mpr hh)
    obtain ⟨hk, hx1, hx6, hr2, hrp, hgj⟩ := jv_box hj hx0
    have hcd1 := hcd hx0
    have hbg := ma_big hk
    have hp3 := hk.1.1
    have hq3 := hk.2.1.1
    have hp9 := hk.1.2.1
    have hq9 := hk.2.1.2.1
    have hkf := ma_keyf hk
    refine lv_iload_n hx hb d_M_votes_10 rfl (lv_at hl 1 rfl) ?_
    refine lv_if_lt (tgt := 22) hx hb d_M_votes_11 (by decide) (fun hc11 => ?_) (fun hc11 => ?_)
    · skip
      rw [← nI_0] at hc11
      rw [ix_lt (x := x) (n := 0) (by omega)] at hc11
      have hcb_ : sp_cand cx x = false := by simp only [sp_cand, Bool.and_eq_false_iff, decide_eq_false_iff_not]; omega
      refine lv_bipush (v := -4) hx hb d_M_votes_22 (by decide) ?_
      exact pu_iret hx hb hr hS d_M_votes_24 hlocks (by simp [an_votes, hx0, hcb_])
    · skip
      rw [← nI_0] at hc11
      rw [ix_lt (x := x) (n := 0) (by omega)] at hc11
      refine lv_iload_n hx hb d_M_votes_14 rfl (lv_at hl 1 rfl) ?_
      refine lv_aload_n hx hb d_M_votes_15 rfl (lv_at hl 0 rfl) ?_
      refine va_get (D := (dC, dI)) (ci := 1) (v := .int (nI cd)) (C := R_M) (T := F_M) (N := 9) hx hb hts f_M hown hK hP 0 rfl rfl 6 (by decide) (hts _ (al_m aw_t213)) (fun _ h9 => h9) rfl d_M_votes_16 ?_
      refine lv_icmp_lt (tgt := 25) hx hb d_M_votes_19 (by decide) (fun hc19 => ?_) (fun hc19 => ?_)
      · skip
        rw [ix_lt (x := x) (n := cd) (by omega)] at hc19
        have hct : sp_cand cx x = true := by simp only [sp_cand, Bool.and_eq_true, decide_eq_true_eq]; omega
        obtain ⟨a, ha1, ha2, rfl⟩ := sp_cand_of hct
        refine lv_aload_n hx hb d_M_votes_25 rfl (lv_at hl 0 rfl) ?_
        refine va_get (D := (dC, dI)) (ci := 1) (v := .int (nI cl)) (C := R_M) (T := F_M) (N := 9) hx hb hts f_M hown hK hP 0 rfl rfl 5 (by decide) (hts _ (al_m aw_t212)) (fun _ h9 => h9) rfl d_M_votes_26 ?_
        refine lv_if_ne (tgt := 35) hx hb d_M_votes_29 (by decide) (fun hc29 => ?_) (fun hc29 => ?_)
        · skip
          rw [← nI_0] at hc29
          rw [nI_eq (a := cl) (b := 0) (by omega) (by omega)] at hc29
          have hc1 : cl = 1 := by omega
          refine lv_aload_n hx hb d_M_votes_35 rfl (lv_at hl 0 rfl) ?_
          refine lv_aload_n hx hb d_M_votes_36 rfl (lv_at hl 0 rfl) ?_
          refine pu_l (va_runV (As := []) (rest := [.ref h1]) ⟨hx, hb, hml, hown, hts⟩ (c_M_product l dC dI h1 q1 cB p q bx cl cd rd g hk (fun j hj0 => (hgj j hj0).1)) (cwV 0 hts (al_V (k_M_product) (aw_t338) (aw_t340) (aw_p21) (aw_t2)) rfl rfl rfl (by decide +kernel) ⟨Nat.le_of_ble_eq_true rfl, Nat.le_of_ble_eq_true rfl⟩) (pu_preV (q0 := 0) (ci := 1) hK hP rfl rfl) rfl rfl hl.1 rfl (lv_room (Nat.le_of_ble_eq_true rfl)) d_M_votes_37 ⟨Nat.zero_le _, Nat.zero_le _⟩) hS (fun H locs hkp hS => ?_)
          have hP := hkp _ _ _ hP
          obtain ⟨hs1, hs2, hs3⟩ := fa_seal hk (fun j hj0 => (hgj j hj0).2)
          refine pu_l (va_runV (As := [.long (lN (sp_prod g 30 % (p * q * (p * q))))]) (rest := []) ⟨hx, hb, hml, hown, hts⟩ (c_M_messageIn l dC dI h1 q1 cB p q bx cl cd rd g (sp_prod g 30 % (p * q * (p * q))) hk hs3 hs1 hs2) (cwV 1 hts (al_V (k_M_messageIn) (aw_t279) (aw_t281) (aw_p17) (aw_t2)) rfl rfl rfl (by decide +kernel) ⟨Nat.le_of_ble_eq_true rfl, Nat.le_of_ble_eq_true rfl⟩) (pu_preV (q0 := 0) (ci := 1) hK hP rfl rfl) rfl rfl hl.1 rfl (lv_room (Nat.le_of_ble_eq_true rfl)) d_M_votes_40 ⟨Nat.zero_le _, Nat.zero_le _⟩) hS (fun H locs hkp hS => ?_)
          have hP := hkp _ _ _ hP
          have htl := fa_sm hk (sp_prod g 30 % (p * q * (p * q)))
          refine lv_lstore_n (lv' := [(2, .long (lN (sp_msg p q (sp_prod g 30 % (p * q * (p * q)))))), (0, .ref h1), (1, .int (nI a))]) hx hb d_M_votes_43 rfl hl (by decide) rfl (fun ls hl => ?_)
          refine lv_lload_n hx hb d_M_votes_44 rfl (lv_at hl 0 rfl) ?_
          refine lv_aload_n hx hb d_M_votes_45 rfl (lv_at hl 1 rfl) ?_
          refine lv_iload_n hx hb d_M_votes_46 rfl (lv_at hl 2 rfl) ?_
          refine pu_l (va_runV (As := [.int (nI a)]) (rest := [.long (lN (sp_msg p q (sp_prod g 30 % (p * q * (p * q)))))]) ⟨hx, hb, hml, hown, hts⟩ (c_M_place l dC dI h1 q1 cB p q bx cl cd rd g a hrd ha2) (cwV 1 hts (al_V (k_M_place) (aw_t308) (aw_t310) (aw_p19) (aw_t2)) rfl rfl rfl (by decide +kernel) ⟨Nat.le_of_ble_eq_true rfl, Nat.le_of_ble_eq_true rfl⟩) (pu_preV (q0 := 0) (ci := 1) hK hP rfl rfl) rfl rfl hl.1 rfl (lv_room (Nat.le_of_ble_eq_true rfl)) d_M_votes_47 ⟨Nat.zero_le _, Nat.zero_le _⟩) hS (fun H locs hkp hS => ?_)
          have hP := hkp _ _ _ hP
          have hra := rp_lt ha1 hr2 hrp
          have hrz : 0 < rd ^ a := Nat.pow_pos (by omega)
          have hdl : sp_msg p q (sp_prod g 30 % (p * q * (p * q))) / rd ^ a ≤ sp_msg p q (sp_prod g 30 % (p * q * (p * q))) := Nat.div_le_self _ _
          refine lv_ldiv hx hb d_M_votes_50 (lN_ne0 (by omega) (by omega)) ?_
          refine wk_l (y := lN ((sp_msg p q (sp_prod g 30 % (p * q * (p * q)))) / (rd ^ a))) (pk_lDiv (by omega) (by omega) (by omega)) ?_
          have hm50 := Nat.div_le_self (sp_msg p q (sp_prod g 30 % (p * q * (p * q)))) (rd ^ a)
          refine lv_aload_n hx hb d_M_votes_51 rfl (lv_at hl 1 rfl) ?_
          refine va_get (D := (dC, dI)) (ci := 1) (v := .int (nI rd)) (C := R_M) (T := F_M) (N := 9) hx hb hts f_M hown hK hP 0 rfl rfl 7 (by decide) (hts _ (al_m aw_t214)) (fun _ h9 => h9) rfl d_M_votes_52 ?_
          refine lv_i2l (v := lN rd) hx hb d_M_votes_55 (nI_l (by omega)) ?_
          refine lv_lrem hx hb d_M_votes_56 (lN_ne0 (by omega) (by omega)) ?_
          refine wk_l (y := lN (((sp_msg p q (sp_prod g 30 % (p * q * (p * q)))) / (rd ^ a)) % rd)) (pk_lRem (by omega) (by omega) (by omega)) ?_
          have hm56 := Nat.mod_le ((sp_msg p q (sp_prod g 30 % (p * q * (p * q)))) / (rd ^ a)) rd
          refine lv_l2i (v := nI (((sp_msg p q (sp_prod g 30 % (p * q * (p * q)))) / (rd ^ a)) % rd)) hx hb d_M_votes_57 (lN_i (((sp_msg p q (sp_prod g 30 % (p * q * (p * q)))) / (rd ^ a)) % rd)) ?_
          exact pu_iret hx hb hr hS d_M_votes_58 hlocks (by simp [an_votes, hx0, hct, hc1, ix_nat ha2])
        · skip
          rw [← nI_0] at hc29
          rw [nI_eq (a := cl) (b := 0) (by omega) (by omega)] at hc29
          refine lv_bipush (v := -6) hx hb d_M_votes_32 (by decide) ?_
          exact pu_iret hx hb hr hS d_M_votes_34 hlocks (by simp [an_votes, hx0, hct, hc29])
      · skip
        rw [ix_lt (x := x) (n := cd) (by omega)] at hc19
        have hcb_ : sp_cand cx x = false := by simp only [sp_cand, Bool.and_eq_false_iff, decide_eq_false_iff_not]; omega
        refine lv_bipush (v := -4) hx hb d_M_votes_22 (by decide) ?_
        exact pu_iret hx hb hr hS d_M_votes_24 hlocks (by simp [an_votes, hx0, hcb_])
  · skip
    rw [← nI_0] at hc4
    rw [nI_eq (a := bx) (b := 0) (by omega) (by omega)] at hc4
    have hx0 : cx = 0 := hbx.mp hc4
    refine lv_bipush (v := -2) hx hb d_M_votes_7 (by decide) ?_
    exact pu_iret hx hb hr hS d_M_votes_9 hlocks (by simp [an_votes, hx0])

set_option maxHeartbeats 4000000 in
set_option maxRecDepth 100000 in
theorem c_M_witness (l : Launch) (dC : Nat → ClassId) (dI : Nat → Nat → Nat) (h1 q1 : Nat) (cB : ClassId) (p q bx cl cd rd : Nat) (g : Nat → Nat) (cx : Nat) (hj : Jv p q cx rd g) (hrd : rd < 2 ^ 31) (hbx : bx = 0 ↔ cx = 0) (hbx1 : bx ≤ 1) (hcd : cx ≠ 0 → cd = cx) (hcl : cl ≤ 1)  : Met l y_M_witness w_M_witness ({ frames := 2, cells := 0, slots := 0, locals := 53 }) (va_Pc [.ref h1] (fun U => va_P (dC, dI) classes [(h1, .inr (1, [.long (lN (p * q)), .long (lN (p * q * (p * q))), .long (lN (sp_f p q)), .long (lN (sp_cex p q)), .int (nI bx), .int (nI cl), .int (nI cd), .int (nI rd), .ref q1])), (q1, .inl (cB, 30, .inr (.inl (fun j => lN (g j)))))] U.heap ∧ va_K (dC, dI) classes [(cB, .long)] U)) (qL (an_witness p q cx cl g)) 0 0 (fun _ => False) := by
  refine Met.ofW (cc := b_M_witness) (maxL := 1) (ret := some .long) (by decide) rfl ?_
  intro pg ev s mi args below meth co s₁ B hml hv
  obtain ⟨rfl, hP, hK⟩ := hv
  have hx := B.exec
  have hb := B.bytes
  have hr := B.returns
  have hts := atoms_spec (ws := w_M_witness) B.pre
  have hown : s.vm.findClass R_M = some mi.cls := findClass_of_methodNamed B.named
  have hlocks := B.notSynchronized
  have hS : va_S (fun _ => False) s.heap s.heap [] := va_S.rf
  have hP : va_P (dC, dI) classes [(h1, .inr (1, [.long (lN (p * q)), .long (lN (p * q * (p * q))), .long (lN (sp_f p q)), .long (lN (sp_cex p q)), .int (nI bx), .int (nI cl), .int (nI cd), .int (nI rd), .ref q1])), (q1, .inl (cB, 30, .inr (.inl (fun j => lN (g j)))))] s.heap := hP
  have hl := lv_entry ([.ref h1]) (n := 1) (Nat.le_of_ble_eq_true rfl)
  rw [lg_entry_eq]
  generalize (lg_sl ([.ref h1]) ++ List.replicate (1 - (lg_sl ([.ref h1])).length) Slot.unset).toArray = ls at hl ⊢
  have hl : lv_has ls 1 [(0, .ref h1)] := hl
  have hjn := jv_n hj
  refine lv_aload_n hx hb d_M_witness_0 rfl (lv_at hl 0 rfl) ?_
  refine va_get (D := (dC, dI)) (ci := 1) (v := .int (nI bx)) (C := R_M) (T := F_M) (N := 9) hx hb hts f_M hown hK hP 0 rfl rfl 4 (by decide) (hts _ (al_m aw_t211)) (fun _ h9 => h9) rfl d_M_witness_1 ?_
  refine lv_if_ne (tgt := 11) hx hb d_M_witness_4 (by decide) (fun hc4 => ?_) (fun hc4 => ?_)
  · skip
    rw [← nI_0] at hc4
    rw [nI_eq (a := bx) (b := 0) (by omega) (by omega)] at hc4
    have hx0 : cx ≠ 0 := fun hh => hc4 (hbx.mpr hh)
    obtain ⟨hk, hx1, hx6, hr2, hrp, hgj⟩ := jv_box hj hx0
    have hcd1 := hcd hx0
    have hbg := ma_big hk
    have hp3 := hk.1.1
    have hq3 := hk.2.1.1
    have hp9 := hk.1.2.1
    have hq9 := hk.2.1.2.1
    have hkf := ma_keyf hk
    refine lv_aload_n hx hb d_M_witness_11 rfl (lv_at hl 0 rfl) ?_
    refine va_get (D := (dC, dI)) (ci := 1) (v := .int (nI cl)) (C := R_M) (T := F_M) (N := 9) hx hb hts f_M hown hK hP 0 rfl rfl 5 (by decide) (hts _ (al_m aw_t212)) (fun _ h9 => h9) rfl d_M_witness_12 ?_
    refine lv_if_eq (tgt := 29) hx hb d_M_witness_15 (by decide) (fun hc15 => ?_) (fun hc15 => ?_)
    · skip
      rw [← nI_0] at hc15
      rw [nI_eq (a := cl) (b := 0) (by omega) (by omega)] at hc15
      refine lv_ldc2 (v := -6) hx hb hown (hts _ (al_m aw_t325)) d_M_witness_29 ?_
      exact pu_lret hx hb hr hS d_M_witness_32 hlocks (by simp [an_witness, hx0, hc15])
    · skip
      rw [← nI_0] at hc15
      rw [nI_eq (a := cl) (b := 0) (by omega) (by omega)] at hc15
      refine lv_aload_n hx hb d_M_witness_18 rfl (lv_at hl 0 rfl) ?_
      refine lv_aload_n hx hb d_M_witness_19 rfl (lv_at hl 0 rfl) ?_
      refine pu_l (va_runV (As := []) (rest := [.ref h1]) ⟨hx, hb, hml, hown, hts⟩ (c_M_product l dC dI h1 q1 cB p q bx cl cd rd g hk (fun j hj0 => (hgj j hj0).1)) (cwV 0 hts (al_V (k_M_product) (aw_t338) (aw_t340) (aw_p21) (aw_t2)) rfl rfl rfl (by decide +kernel) ⟨Nat.le_of_ble_eq_true rfl, Nat.le_of_ble_eq_true rfl⟩) (pu_preV (q0 := 0) (ci := 1) hK hP rfl rfl) rfl rfl hl.1 rfl (lv_room (Nat.le_of_ble_eq_true rfl)) d_M_witness_20 ⟨Nat.zero_le _, Nat.zero_le _⟩) hS (fun H locs hkp hS => ?_)
      have hP := hkp _ _ _ hP
      refine pu_l (va_runV (As := [.long (lN (sp_prod g 30 % (p * q * (p * q))))]) (rest := []) ⟨hx, hb, hml, hown, hts⟩ (c_M_coinIn l dC dI h1 q1 cB p q bx cl cd rd g (sp_prod g 30 % (p * q * (p * q))) hk (Nat.lt_of_lt_of_le (Nat.mod_lt _ (by omega)) (by omega))) (cwV 1 hts (al_V (k_M_coinIn) (aw_t283) (aw_t285) (aw_p18) (aw_t2)) rfl rfl rfl (by decide +kernel) ⟨Nat.le_of_ble_eq_true rfl, Nat.le_of_ble_eq_true rfl⟩) (pu_preV (q0 := 0) (ci := 1) hK hP rfl rfl) rfl rfl hl.1 rfl (lv_room (Nat.le_of_ble_eq_true rfl)) d_M_witness_23 ⟨Nat.zero_le _, Nat.zero_le _⟩) hS (fun H locs hkp hS => ?_)
      have hP := hkp _ _ _ hP
      refine lv_goto (tgt := 32) hx hb d_M_witness_26 (by decide) ?_
      exact pu_lret hx hb hr hS d_M_witness_32 hlocks (by simp [an_witness, hx0, hc15])
  · skip
    rw [← nI_0] at hc4
    rw [nI_eq (a := bx) (b := 0) (by omega) (by omega)] at hc4
    have hx0 : cx = 0 := hbx.mp hc4
    refine lv_ldc2 (v := -2) hx hb hown (hts _ (al_m aw_t307)) d_M_witness_7 ?_
    exact pu_lret hx hb hr hS d_M_witness_10 hlocks (by simp [an_witness, hx0])

set_option maxHeartbeats 4000000 in
set_option maxRecDepth 100000 in
theorem c_M_check (l : Launch) (dC : Nat → ClassId) (dI : Nat → Nat → Nat) (h1 q1 : Nat) (cB : ClassId) (p q bx cl cd rd : Nat) (g : Nat → Nat) (x y : Int64) (cx : Nat) (hj : Jv p q cx rd g) (hrd : rd < 2 ^ 31) (hbx : bx = 0 ↔ cx = 0) (hbx1 : bx ≤ 1) (hcd : cx ≠ 0 → cd = cx) (hcl : cl ≤ 1)  : Met l y_M_check w_M_check ({ frames := 2, cells := 0, slots := 0, locals := 57 }) (va_Pc [.ref h1, .long x, .long y] (fun U => va_P (dC, dI) classes [(h1, .inr (1, [.long (lN (p * q)), .long (lN (p * q * (p * q))), .long (lN (sp_f p q)), .long (lN (sp_cex p q)), .int (nI bx), .int (nI cl), .int (nI cd), .int (nI rd), .ref q1])), (q1, .inl (cB, 30, .inr (.inl (fun j => lN (g j)))))] U.heap ∧ va_K (dC, dI) classes [(cB, .long)] U)) (qI (bI (an_check p q cx g x y))) 0 0 (fun _ => False) := by
  refine Met.ofW (cc := b_M_check) (maxL := 5) (ret := some .boolean) (by decide) rfl ?_
  intro pg ev s mi args below meth co s₁ B hml hv
  obtain ⟨rfl, hP, hK⟩ := hv
  have hx := B.exec
  have hb := B.bytes
  have hr := B.returns
  have hts := atoms_spec (ws := w_M_check) B.pre
  have hown : s.vm.findClass R_M = some mi.cls := findClass_of_methodNamed B.named
  have hlocks := B.notSynchronized
  have hS : va_S (fun _ => False) s.heap s.heap [] := va_S.rf
  have hP : va_P (dC, dI) classes [(h1, .inr (1, [.long (lN (p * q)), .long (lN (p * q * (p * q))), .long (lN (sp_f p q)), .long (lN (sp_cex p q)), .int (nI bx), .int (nI cl), .int (nI cd), .int (nI rd), .ref q1])), (q1, .inl (cB, 30, .inr (.inl (fun j => lN (g j)))))] s.heap := hP
  have hl := lv_entry ([.ref h1, .long x, .long y]) (n := 5) (Nat.le_of_ble_eq_true rfl)
  rw [lg_entry_eq]
  generalize (lg_sl ([.ref h1, .long x, .long y]) ++ List.replicate (5 - (lg_sl ([.ref h1, .long x, .long y])).length) Slot.unset).toArray = ls at hl ⊢
  have hl : lv_has ls 5 [(0, .ref h1), (1, .long x), (3, .long y)] := hl
  have hjn := jv_n hj
  refine lv_aload_n hx hb d_M_check_0 rfl (lv_at hl 0 rfl) ?_
  refine va_get (D := (dC, dI)) (ci := 1) (v := .int (nI bx)) (C := R_M) (T := F_M) (N := 9) hx hb hts f_M hown hK hP 0 rfl rfl 4 (by decide) (hts _ (al_m aw_t211)) (fun _ h9 => h9) rfl d_M_check_1 ?_
  refine lv_if_eq (tgt := 41) hx hb d_M_check_4 (by decide) (fun hc4 => ?_) (fun hc4 => ?_)
  · skip
    rw [← nI_0] at hc4
    rw [nI_eq (a := bx) (b := 0) (by omega) (by omega)] at hc4
    have hx0 : cx = 0 := hbx.mp hc4
    refine lv_iconst (v := nI 0) hx hb d_M_check_41 (by decide) ?_
    exact pu_zret hx hb hr (by decide) hS d_M_check_42 hlocks ((bI_f (by simp [an_check, hx0])).symm)
  · skip
    rw [← nI_0] at hc4
    rw [nI_eq (a := bx) (b := 0) (by omega) (by omega)] at hc4
    have hx0 : cx ≠ 0 := fun hh => hc4 (hbx.mpr hh)
    obtain ⟨hk, hx1, hx6, hr2, hrp, hgj⟩ := jv_box hj hx0
    have hcd1 := hcd hx0
    have hbg := ma_big hk
    have hp3 := hk.1.1
    have hq3 := hk.2.1.1
    have hp9 := hk.1.2.1
    have hq9 := hk.2.1.2.1
    have hkf := ma_keyf hk
    refine lv_aload_n hx hb d_M_check_7 rfl (lv_at hl 0 rfl) ?_
    refine lv_lload_n hx hb d_M_check_8 rfl (lv_at hl 1 rfl) ?_
    refine pu_i (va_runV (As := [.long x]) (rest := []) ⟨hx, hb, hml, hown, hts⟩ (c_M_isMessage l dC dI h1 q1 cB p q bx cl cd rd g x (by omega)) (cwV 1 hts (al_V (k_M_isMessage) (aw_t251) (aw_t253) (aw_p13) (aw_t2)) rfl rfl rfl (by decide +kernel) ⟨Nat.le_of_ble_eq_true rfl, Nat.le_of_ble_eq_true rfl⟩) (pu_preV (q0 := 0) (ci := 1) hK hP rfl rfl) rfl rfl hl.1 rfl (lv_room (Nat.le_of_ble_eq_true rfl)) d_M_check_9 ⟨Nat.zero_le _, Nat.zero_le _⟩) hS (fun H locs hkp hS => ?_)
    have hP := hkp _ _ _ hP
    refine lv_if_eq (tgt := 41) hx hb d_M_check_12 (by decide) (fun hc12 => ?_) (fun hc12 => ?_)
    · skip
      rw [bI_0] at hc12
      refine lv_iconst (v := nI 0) hx hb d_M_check_41 (by decide) ?_
      exact pu_zret hx hb hr (by decide) hS d_M_check_42 hlocks ((bI_f (by simp [an_check, hx0, hc12])).symm)
    · skip
      rw [bI_0] at hc12
      rw [Bool.not_eq_false] at hc12
      refine lv_aload_n hx hb d_M_check_15 rfl (lv_at hl 0 rfl) ?_
      refine lv_lload_n hx hb d_M_check_16 rfl (lv_at hl 2 rfl) ?_
      refine pu_i (va_runV (As := [.long y]) (rest := []) ⟨hx, hb, hml, hown, hts⟩ (c_M_isCoin l dC dI h1 q1 cB p q bx cl cd rd g y hk) (cwV 1 hts (al_V (k_M_isCoin) (aw_t255) (aw_t257) (aw_p14) (aw_t2)) rfl rfl rfl (by decide +kernel) ⟨Nat.le_of_ble_eq_true rfl, Nat.le_of_ble_eq_true rfl⟩) (pu_preV (q0 := 0) (ci := 1) hK hP rfl rfl) rfl rfl hl.1 rfl (lv_room (Nat.le_of_ble_eq_true rfl)) d_M_check_17 ⟨Nat.zero_le _, Nat.zero_le _⟩) hS (fun H locs hkp hS => ?_)
      have hP := hkp _ _ _ hP
      refine lv_if_eq (tgt := 41) hx hb d_M_check_20 (by decide) (fun hc20 => ?_) (fun hc20 => ?_)
      · skip
        rw [bI_0] at hc20
        refine lv_iconst (v := nI 0) hx hb d_M_check_41 (by decide) ?_
        exact pu_zret hx hb hr (by decide) hS d_M_check_42 hlocks ((bI_f (by simp [an_check, hx0, hc12, hc20])).symm)
      · skip
        rw [bI_0] at hc20
        rw [Bool.not_eq_false] at hc20
        obtain ⟨a, ha1, ha2, rfl⟩ := sp_isM_of hc12
        obtain ⟨b, hb1, hb2, hb3, hb4, hb5, rfl⟩ := sp_isC_of hc20
        refine lv_aload_n hx hb d_M_check_23 rfl (lv_at hl 0 rfl) ?_
        refine lv_lload_n hx hb d_M_check_24 rfl (lv_at hl 1 rfl) ?_
        refine lv_lload_n hx hb d_M_check_25 rfl (lv_at hl 2 rfl) ?_
        refine pu_l (va_runV (As := [.long (lN a), .long (lN b)]) (rest := []) ⟨hx, hb, hml, hown, hts⟩ (c_M_sealing l dC dI h1 q1 cB p q bx cl cd rd g a b hk ha2 hb3) (cwV 2 hts (al_V (k_M_sealing) (aw_t262) (aw_t264) (aw_p15) (aw_t2)) rfl rfl rfl (by decide +kernel) ⟨Nat.le_of_ble_eq_true rfl, Nat.le_of_ble_eq_true rfl⟩) (pu_preV (q0 := 0) (ci := 1) hK hP rfl rfl) rfl rfl hl.1 rfl (lv_room (Nat.le_of_ble_eq_true rfl)) d_M_check_26 ⟨Nat.zero_le _, Nat.zero_le _⟩) hS (fun H locs hkp hS => ?_)
        have hP := hkp _ _ _ hP
        refine lv_aload_n hx hb d_M_check_29 rfl (lv_at hl 0 rfl) ?_
        refine pu_l (va_runV (As := []) (rest := [.long (lN (sp_seal p q a b))]) ⟨hx, hb, hml, hown, hts⟩ (c_M_product l dC dI h1 q1 cB p q bx cl cd rd g hk (fun j hj0 => (hgj j hj0).1)) (cwV 0 hts (al_V (k_M_product) (aw_t338) (aw_t340) (aw_p21) (aw_t2)) rfl rfl rfl (by decide +kernel) ⟨Nat.le_of_ble_eq_true rfl, Nat.le_of_ble_eq_true rfl⟩) (pu_preV (q0 := 0) (ci := 1) hK hP rfl rfl) rfl rfl hl.1 rfl (lv_room (Nat.le_of_ble_eq_true rfl)) d_M_check_30 ⟨Nat.zero_le _, Nat.zero_le _⟩) hS (fun H locs hkp hS => ?_)
        have hP := hkp _ _ _ hP
        have hs1 : sp_seal p q a b < p * q * (p * q) := Nat.mod_lt _ (by omega)
        have hs2 : sp_prod g 30 % (p * q * (p * q)) < p * q * (p * q) := Nat.mod_lt _ (by omega)
        refine W.lcmp hx hb d_M_check_33 ?_
        refine lv_if_ne (tgt := 41) hx hb d_M_check_34 (by decide) (fun hc34 => ?_) (fun hc34 => ?_)
        · skip
          rw [lg_cmp_eq] at hc34
          rw [pk_lEQ (a := sp_seal p q a b) (b := sp_prod g 30 % (p * q * (p * q))) (by omega) (by omega)] at hc34
          refine lv_iconst (v := nI 0) hx hb d_M_check_41 (by decide) ?_
          exact pu_zret hx hb hr (by decide) hS d_M_check_42 hlocks ((bI_f (by simp [an_check, hx0, hc12, hc20, lx_nat ha2, lx_nat hb3, hc34])).symm)
        · skip
          rw [lg_cmp_eq] at hc34
          rw [pk_lEQ (a := sp_seal p q a b) (b := sp_prod g 30 % (p * q * (p * q))) (by omega) (by omega)] at hc34
          refine lv_iconst (v := nI 1) hx hb d_M_check_37 (by decide) ?_
          refine lv_goto (tgt := 42) hx hb d_M_check_38 (by decide) ?_
          exact pu_zret hx hb hr (by decide) hS d_M_check_42 hlocks ((bI_t (by simp [an_check, hx0, hc12, hc20, lx_nat ha2, lx_nat hb3, hc34])).symm)
