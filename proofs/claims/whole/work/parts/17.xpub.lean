set_option maxHeartbeats 4000000 in
set_option maxRecDepth 100000 in
theorem c_X_modulus (l : Launch) (dC : Nat → ClassId) (dI : Nat → Nat → Nat) (h0 q0 : Nat) (cA : ClassId) (p q cx rd cl tt bc : Nat) (g : Nat → Nat)  : Met l y_X_modulus w_X_modulus ({ frames := 0, cells := 0, slots := 0, locals := 0 }) (va_Pc [.ref h0] (fun U => va_P (dC, dI) classes [(h0, .inr (0, [.int (nI p), .int (nI q), .int (nI (p * q)), .long (lN (p * q * (p * q))), .long (lN (sp_f p q)), .long (lN (sp_inv p q)), .long (lN (sp_cex p q)), .int (nI cx), .int (nI rd), .int (nI cl), .long (lN tt), .int (nI bc), .ref q0])), (q0, .inl (cA, 30, .inr (.inl (fun j => lN (g j)))))] U.heap ∧ va_K (dC, dI) classes [(cA, .long)] U)) (qI (nI (p * q))) 0 0 (fun _ => False) := by
  refine Met.ofW (cc := b_X_modulus) (maxL := 1) (ret := some .int) (by decide) rfl ?_
  intro pg ev s mi args below meth co s₁ B hml hv
  obtain ⟨rfl, hP, hK⟩ := hv
  have hx := B.exec
  have hb := B.bytes
  have hr := B.returns
  have hts := atoms_spec (ws := w_X_modulus) B.pre
  have hown : s.vm.findClass R_X = some mi.cls := findClass_of_methodNamed B.named
  have hlocks := B.notSynchronized
  have hS : va_S (fun _ => False) s.heap s.heap [] := va_S.rf
  have hP : va_P (dC, dI) classes [(h0, .inr (0, [.int (nI p), .int (nI q), .int (nI (p * q)), .long (lN (p * q * (p * q))), .long (lN (sp_f p q)), .long (lN (sp_inv p q)), .long (lN (sp_cex p q)), .int (nI cx), .int (nI rd), .int (nI cl), .long (lN tt), .int (nI bc), .ref q0])), (q0, .inl (cA, 30, .inr (.inl (fun j => lN (g j)))))] s.heap := hP
  have hl := lv_entry ([.ref h0]) (n := 1) (Nat.le_of_ble_eq_true rfl)
  rw [lg_entry_eq]
  generalize (lg_sl ([.ref h0]) ++ List.replicate (1 - (lg_sl ([.ref h0])).length) Slot.unset).toArray = ls at hl ⊢
  have hl : lv_has ls 1 [(0, .ref h0)] := hl
  refine lv_aload_n hx hb d_X_modulus_0 rfl (lv_at hl 0 rfl) ?_
  refine va_get (D := (dC, dI)) (ci := 0) (v := .int (nI (p * q))) (C := R_X) (T := F_X) (N := 13) hx hb hts f_X hown hK hP 0 rfl rfl 2 (by decide) (hts _ (al_m aw_t15)) (fun _ h9 => h9) rfl d_X_modulus_1 ?_
  exact pu_iret hx hb hr hS d_X_modulus_4 hlocks (rfl)

set_option maxHeartbeats 4000000 in
set_option maxRecDepth 100000 in
theorem c_X_seal (l : Launch) (dC : Nat → ClassId) (dI : Nat → Nat → Nat) (h0 q0 : Nat) (cA : ClassId) (p q cx rd cl tt bc : Nat) (g : Nat → Nat) (x y : Int64) (hj : Jv p q cx rd g) : Met l y_X_seal w_X_seal ({ frames := 3, cells := 0, slots := 0, locals := 64 }) (va_Pc [.ref h0, .long x, .long y] (fun U => va_P (dC, dI) classes [(h0, .inr (0, [.int (nI p), .int (nI q), .int (nI (p * q)), .long (lN (p * q * (p * q))), .long (lN (sp_f p q)), .long (lN (sp_inv p q)), .long (lN (sp_cex p q)), .int (nI cx), .int (nI rd), .int (nI cl), .long (lN tt), .int (nI bc), .ref q0])), (q0, .inl (cA, 30, .inr (.inl (fun j => lN (g j)))))] U.heap ∧ va_K (dC, dI) classes [(cA, .long)] U)) (qL (an_seal p q x y)) 0 0 (fun _ => False) := by
  refine Met.ofW (cc := b_X_seal) (maxL := 5) (ret := some .long) (by decide) rfl ?_
  intro pg ev s mi args below meth co s₁ B hml hv
  obtain ⟨rfl, hP, hK⟩ := hv
  have hx := B.exec
  have hb := B.bytes
  have hr := B.returns
  have hts := atoms_spec (ws := w_X_seal) B.pre
  have hown : s.vm.findClass R_X = some mi.cls := findClass_of_methodNamed B.named
  have hlocks := B.notSynchronized
  have hS : va_S (fun _ => False) s.heap s.heap [] := va_S.rf
  have hP : va_P (dC, dI) classes [(h0, .inr (0, [.int (nI p), .int (nI q), .int (nI (p * q)), .long (lN (p * q * (p * q))), .long (lN (sp_f p q)), .long (lN (sp_inv p q)), .long (lN (sp_cex p q)), .int (nI cx), .int (nI rd), .int (nI cl), .long (lN tt), .int (nI bc), .ref q0])), (q0, .inl (cA, 30, .inr (.inl (fun j => lN (g j)))))] s.heap := hP
  have hl := lv_entry ([.ref h0, .long x, .long y]) (n := 5) (Nat.le_of_ble_eq_true rfl)
  rw [lg_entry_eq]
  generalize (lg_sl ([.ref h0, .long x, .long y]) ++ List.replicate (5 - (lg_sl ([.ref h0, .long x, .long y])).length) Slot.unset).toArray = ls at hl ⊢
  have hl : lv_has ls 5 [(0, .ref h0), (1, .long x), (3, .long y)] := hl
  have hjn := jv_n hj
  refine lv_aload_n hx hb d_X_seal_0 rfl (lv_at hl 0 rfl) ?_
  refine pu_i (va_runV (As := []) (rest := []) ⟨hx, hb, hml, hown, hts⟩ (c_X_hasKey l dC dI h0 q0 cA p q cx rd cl tt bc g (by omega)) (cwV 0 hts (al_V (k_X_hasKey) (aw_t75) (aw_t77) (aw_p0) (aw_t1)) rfl rfl rfl (by decide +kernel) ⟨Nat.le_of_ble_eq_true rfl, Nat.le_of_ble_eq_true rfl⟩) (pu_preV (q0 := 0) (ci := 0) hK hP rfl rfl) rfl rfl hl.1 rfl (lv_room (Nat.le_of_ble_eq_true rfl)) d_X_seal_1 ⟨Nat.zero_le _, Nat.zero_le _⟩) hS (fun H locs hkp hS => ?_)
  have hP := hkp _ _ _ hP
  refine lv_if_ne (tgt := 11) hx hb d_X_seal_4 (by decide) (fun hc4 => ?_) (fun hc4 => ?_)
  · skip
    rw [bI_0] at hc4
    rw [Bool.not_eq_false] at hc4
    have hp0 := jv_t hj hc4
    have hk := jv_key hj hp0
    have hbg := ma_big hk
    have hp3 := hk.1.1
    have hq3 := hk.2.1.1
    have hp9 := hk.1.2.1
    have hq9 := hk.2.1.2.1
    have hkf := ma_keyf hk
    refine lv_aload_n hx hb d_X_seal_11 rfl (lv_at hl 0 rfl) ?_
    refine lv_lload_n hx hb d_X_seal_12 rfl (lv_at hl 1 rfl) ?_
    refine pu_i (va_runV (As := [.long x]) (rest := []) ⟨hx, hb, hml, hown, hts⟩ (c_X_isMessage l dC dI h0 q0 cA p q cx rd cl tt bc g x (by omega)) (cwV 1 hts (al_V (k_X_isMessage) (aw_t80) (aw_t82) (aw_p1) (aw_t1)) rfl rfl rfl (by decide +kernel) ⟨Nat.le_of_ble_eq_true rfl, Nat.le_of_ble_eq_true rfl⟩) (pu_preV (q0 := 0) (ci := 0) hK hP rfl rfl) rfl rfl hl.1 rfl (lv_room (Nat.le_of_ble_eq_true rfl)) d_X_seal_13 ⟨Nat.zero_le _, Nat.zero_le _⟩) hS (fun H locs hkp hS => ?_)
    have hP := hkp _ _ _ hP
    refine lv_if_eq (tgt := 27) hx hb d_X_seal_16 (by decide) (fun hc16 => ?_) (fun hc16 => ?_)
    · skip
      rw [bI_0] at hc16
      refine lv_ldc2 (v := -4) hx hb hown (hts _ (al_m aw_t92)) d_X_seal_27 ?_
      exact pu_lret hx hb hr hS d_X_seal_30 hlocks (by simp [an_seal, hp0, hc16])
    · skip
      rw [bI_0] at hc16
      rw [Bool.not_eq_false] at hc16
      refine lv_aload_n hx hb d_X_seal_19 rfl (lv_at hl 0 rfl) ?_
      refine lv_lload_n hx hb d_X_seal_20 rfl (lv_at hl 2 rfl) ?_
      refine pu_i (va_runV (As := [.long y]) (rest := []) ⟨hx, hb, hml, hown, hts⟩ (c_X_isCoin l dC dI h0 q0 cA p q cx rd cl tt bc g y hk) (cwV 1 hts (al_V (k_X_isCoin) (aw_t84) (aw_t86) (aw_p2) (aw_t1)) rfl rfl rfl (by decide +kernel) ⟨Nat.le_of_ble_eq_true rfl, Nat.le_of_ble_eq_true rfl⟩) (pu_preV (q0 := 0) (ci := 0) hK hP rfl rfl) rfl rfl hl.1 rfl (lv_room (Nat.le_of_ble_eq_true rfl)) d_X_seal_21 ⟨Nat.zero_le _, Nat.zero_le _⟩) hS (fun H locs hkp hS => ?_)
      have hP := hkp _ _ _ hP
      refine lv_if_ne (tgt := 31) hx hb d_X_seal_24 (by decide) (fun hc24 => ?_) (fun hc24 => ?_)
      · skip
        rw [bI_0] at hc24
        rw [Bool.not_eq_false] at hc24
        obtain ⟨a, ha1, ha2, rfl⟩ := sp_isM_of hc16
        obtain ⟨b, hb1, hb2, hb3, hb4, hb5, rfl⟩ := sp_isC_of hc24
        refine lv_aload_n hx hb d_X_seal_31 rfl (lv_at hl 0 rfl) ?_
        refine lv_lload_n hx hb d_X_seal_32 rfl (lv_at hl 1 rfl) ?_
        refine lv_lload_n hx hb d_X_seal_33 rfl (lv_at hl 2 rfl) ?_
        refine pu_l (va_runV (As := [.long (lN a), .long (lN b)]) (rest := []) ⟨hx, hb, hml, hown, hts⟩ (c_X_sealing l dC dI h0 q0 cA p q cx rd cl tt bc g a b hk ha1 (Nat.lt_of_lt_of_le hb2 (Nat.le_mul_of_pos_left _ (by omega)))) (cwV 2 hts (al_V (k_X_sealing) (aw_t93) (aw_t95) (aw_p4) (aw_t1)) rfl rfl rfl (by decide +kernel) ⟨Nat.le_of_ble_eq_true rfl, Nat.le_of_ble_eq_true rfl⟩) (pu_preV (q0 := 0) (ci := 0) hK hP rfl rfl) rfl rfl hl.1 rfl (lv_room (Nat.le_of_ble_eq_true rfl)) d_X_seal_34 ⟨Nat.zero_le _, Nat.zero_le _⟩) hS (fun H locs hkp hS => ?_)
        have hP := hkp _ _ _ hP
        exact pu_lret hx hb hr hS d_X_seal_37 hlocks (by simp [an_seal, hp0, hc16, hc24, lx_nat ha2, lx_nat hb3])
      · skip
        rw [bI_0] at hc24
        refine lv_ldc2 (v := -4) hx hb hown (hts _ (al_m aw_t92)) d_X_seal_27 ?_
        exact pu_lret hx hb hr hS d_X_seal_30 hlocks (by simp [an_seal, hp0, hc16, hc24])
  · skip
    rw [bI_0] at hc4
    have hp0 := jv_f hj hc4
    refine lv_ldc2 (v := -1) hx hb hown (hts _ (al_m aw_t79)) d_X_seal_7 ?_
    exact pu_lret hx hb hr hS d_X_seal_10 hlocks (by simp [an_seal, hp0])

set_option maxHeartbeats 4000000 in
set_option maxRecDepth 100000 in
theorem c_X_message (l : Launch) (dC : Nat → ClassId) (dI : Nat → Nat → Nat) (h0 q0 : Nat) (cA : ClassId) (p q cx rd cl tt bc : Nat) (g : Nat → Nat) (x : Int64) (hj : Jv p q cx rd g) : Met l y_X_message w_X_message ({ frames := 3, cells := 0, slots := 0, locals := 64 }) (va_Pc [.ref h0, .long x] (fun U => va_P (dC, dI) classes [(h0, .inr (0, [.int (nI p), .int (nI q), .int (nI (p * q)), .long (lN (p * q * (p * q))), .long (lN (sp_f p q)), .long (lN (sp_inv p q)), .long (lN (sp_cex p q)), .int (nI cx), .int (nI rd), .int (nI cl), .long (lN tt), .int (nI bc), .ref q0])), (q0, .inl (cA, 30, .inr (.inl (fun j => lN (g j)))))] U.heap ∧ va_K (dC, dI) classes [(cA, .long)] U)) (qL (an_msg p q x)) 0 0 (fun _ => False) := by
  refine Met.ofW (cc := b_X_message) (maxL := 3) (ret := some .long) (by decide) rfl ?_
  intro pg ev s mi args below meth co s₁ B hml hv
  obtain ⟨rfl, hP, hK⟩ := hv
  have hx := B.exec
  have hb := B.bytes
  have hr := B.returns
  have hts := atoms_spec (ws := w_X_message) B.pre
  have hown : s.vm.findClass R_X = some mi.cls := findClass_of_methodNamed B.named
  have hlocks := B.notSynchronized
  have hS : va_S (fun _ => False) s.heap s.heap [] := va_S.rf
  have hP : va_P (dC, dI) classes [(h0, .inr (0, [.int (nI p), .int (nI q), .int (nI (p * q)), .long (lN (p * q * (p * q))), .long (lN (sp_f p q)), .long (lN (sp_inv p q)), .long (lN (sp_cex p q)), .int (nI cx), .int (nI rd), .int (nI cl), .long (lN tt), .int (nI bc), .ref q0])), (q0, .inl (cA, 30, .inr (.inl (fun j => lN (g j)))))] s.heap := hP
  have hl := lv_entry ([.ref h0, .long x]) (n := 3) (Nat.le_of_ble_eq_true rfl)
  rw [lg_entry_eq]
  generalize (lg_sl ([.ref h0, .long x]) ++ List.replicate (3 - (lg_sl ([.ref h0, .long x])).length) Slot.unset).toArray = ls at hl ⊢
  have hl : lv_has ls 3 [(0, .ref h0), (1, .long x)] := hl
  have hjn := jv_n hj
  refine lv_aload_n hx hb d_X_message_0 rfl (lv_at hl 0 rfl) ?_
  refine pu_i (va_runV (As := []) (rest := []) ⟨hx, hb, hml, hown, hts⟩ (c_X_hasKey l dC dI h0 q0 cA p q cx rd cl tt bc g (by omega)) (cwV 0 hts (al_V (k_X_hasKey) (aw_t75) (aw_t77) (aw_p0) (aw_t1)) rfl rfl rfl (by decide +kernel) ⟨Nat.le_of_ble_eq_true rfl, Nat.le_of_ble_eq_true rfl⟩) (pu_preV (q0 := 0) (ci := 0) hK hP rfl rfl) rfl rfl hl.1 rfl (lv_room (Nat.le_of_ble_eq_true rfl)) d_X_message_1 ⟨Nat.zero_le _, Nat.zero_le _⟩) hS (fun H locs hkp hS => ?_)
  have hP := hkp _ _ _ hP
  refine lv_if_ne (tgt := 11) hx hb d_X_message_4 (by decide) (fun hc4 => ?_) (fun hc4 => ?_)
  · skip
    rw [bI_0] at hc4
    rw [Bool.not_eq_false] at hc4
    have hp0 := jv_t hj hc4
    have hk := jv_key hj hp0
    have hbg := ma_big hk
    have hp3 := hk.1.1
    have hq3 := hk.2.1.1
    have hp9 := hk.1.2.1
    have hq9 := hk.2.1.2.1
    have hkf := ma_keyf hk
    refine lv_aload_n hx hb d_X_message_11 rfl (lv_at hl 0 rfl) ?_
    refine lv_lload_n hx hb d_X_message_12 rfl (lv_at hl 1 rfl) ?_
    refine pu_i (va_runV (As := [.long x]) (rest := []) ⟨hx, hb, hml, hown, hts⟩ (c_X_isSeal l dC dI h0 q0 cA p q cx rd cl tt bc g x hk) (cwV 1 hts (al_V (k_X_isSeal) (aw_t101) (aw_t103) (aw_p5) (aw_t1)) rfl rfl rfl (by decide +kernel) ⟨Nat.le_of_ble_eq_true rfl, Nat.le_of_ble_eq_true rfl⟩) (pu_preV (q0 := 0) (ci := 0) hK hP rfl rfl) rfl rfl hl.1 rfl (lv_room (Nat.le_of_ble_eq_true rfl)) d_X_message_13 ⟨Nat.zero_le _, Nat.zero_le _⟩) hS (fun H locs hkp hS => ?_)
    have hP := hkp _ _ _ hP
    refine lv_if_ne (tgt := 23) hx hb d_X_message_16 (by decide) (fun hc16 => ?_) (fun hc16 => ?_)
    · skip
      rw [bI_0] at hc16
      rw [Bool.not_eq_false] at hc16
      obtain ⟨a, ha1, ha2, ha3, ha4, ha5, rfl⟩ := sp_isS_of hc16
      refine lv_aload_n hx hb d_X_message_23 rfl (lv_at hl 0 rfl) ?_
      refine lv_lload_n hx hb d_X_message_24 rfl (lv_at hl 1 rfl) ?_
      refine pu_l (va_runV (As := [.long (lN a)]) (rest := []) ⟨hx, hb, hml, hown, hts⟩ (c_X_messageIn l dC dI h0 q0 cA p q cx rd cl tt bc g a hk ha2 ha4 ha5) (cwV 1 hts (al_V (k_X_messageIn) (aw_t105) (aw_t107) (aw_p6) (aw_t1)) rfl rfl rfl (by decide +kernel) ⟨Nat.le_of_ble_eq_true rfl, Nat.le_of_ble_eq_true rfl⟩) (pu_preV (q0 := 0) (ci := 0) hK hP rfl rfl) rfl rfl hl.1 rfl (lv_room (Nat.le_of_ble_eq_true rfl)) d_X_message_25 ⟨Nat.zero_le _, Nat.zero_le _⟩) hS (fun H locs hkp hS => ?_)
      have hP := hkp _ _ _ hP
      exact pu_lret hx hb hr hS d_X_message_28 hlocks (by simp [an_msg, hp0, hc16, lx_nat ha3])
    · skip
      rw [bI_0] at hc16
      refine lv_ldc2 (v := -4) hx hb hown (hts _ (al_m aw_t92)) d_X_message_19 ?_
      exact pu_lret hx hb hr hS d_X_message_22 hlocks (by simp [an_msg, hp0, hc16])
  · skip
    rw [bI_0] at hc4
    have hp0 := jv_f hj hc4
    refine lv_ldc2 (v := -1) hx hb hown (hts _ (al_m aw_t79)) d_X_message_7 ?_
    exact pu_lret hx hb hr hS d_X_message_10 hlocks (by simp [an_msg, hp0])

set_option maxHeartbeats 4000000 in
set_option maxRecDepth 100000 in
theorem c_X_coin (l : Launch) (dC : Nat → ClassId) (dI : Nat → Nat → Nat) (h0 q0 : Nat) (cA : ClassId) (p q cx rd cl tt bc : Nat) (g : Nat → Nat) (x : Int64) (hj : Jv p q cx rd g) : Met l y_X_coin w_X_coin ({ frames := 3, cells := 0, slots := 0, locals := 64 }) (va_Pc [.ref h0, .long x] (fun U => va_P (dC, dI) classes [(h0, .inr (0, [.int (nI p), .int (nI q), .int (nI (p * q)), .long (lN (p * q * (p * q))), .long (lN (sp_f p q)), .long (lN (sp_inv p q)), .long (lN (sp_cex p q)), .int (nI cx), .int (nI rd), .int (nI cl), .long (lN tt), .int (nI bc), .ref q0])), (q0, .inl (cA, 30, .inr (.inl (fun j => lN (g j)))))] U.heap ∧ va_K (dC, dI) classes [(cA, .long)] U)) (qL (an_coin p q x)) 0 0 (fun _ => False) := by
  refine Met.ofW (cc := b_X_coin) (maxL := 3) (ret := some .long) (by decide) rfl ?_
  intro pg ev s mi args below meth co s₁ B hml hv
  obtain ⟨rfl, hP, hK⟩ := hv
  have hx := B.exec
  have hb := B.bytes
  have hr := B.returns
  have hts := atoms_spec (ws := w_X_coin) B.pre
  have hown : s.vm.findClass R_X = some mi.cls := findClass_of_methodNamed B.named
  have hlocks := B.notSynchronized
  have hS : va_S (fun _ => False) s.heap s.heap [] := va_S.rf
  have hP : va_P (dC, dI) classes [(h0, .inr (0, [.int (nI p), .int (nI q), .int (nI (p * q)), .long (lN (p * q * (p * q))), .long (lN (sp_f p q)), .long (lN (sp_inv p q)), .long (lN (sp_cex p q)), .int (nI cx), .int (nI rd), .int (nI cl), .long (lN tt), .int (nI bc), .ref q0])), (q0, .inl (cA, 30, .inr (.inl (fun j => lN (g j)))))] s.heap := hP
  have hl := lv_entry ([.ref h0, .long x]) (n := 3) (Nat.le_of_ble_eq_true rfl)
  rw [lg_entry_eq]
  generalize (lg_sl ([.ref h0, .long x]) ++ List.replicate (3 - (lg_sl ([.ref h0, .long x])).length) Slot.unset).toArray = ls at hl ⊢
  have hl : lv_has ls 3 [(0, .ref h0), (1, .long x)] := hl
  have hjn := jv_n hj
  refine lv_aload_n hx hb d_X_coin_0 rfl (lv_at hl 0 rfl) ?_
  refine pu_i (va_runV (As := []) (rest := []) ⟨hx, hb, hml, hown, hts⟩ (c_X_hasKey l dC dI h0 q0 cA p q cx rd cl tt bc g (by omega)) (cwV 0 hts (al_V (k_X_hasKey) (aw_t75) (aw_t77) (aw_p0) (aw_t1)) rfl rfl rfl (by decide +kernel) ⟨Nat.le_of_ble_eq_true rfl, Nat.le_of_ble_eq_true rfl⟩) (pu_preV (q0 := 0) (ci := 0) hK hP rfl rfl) rfl rfl hl.1 rfl (lv_room (Nat.le_of_ble_eq_true rfl)) d_X_coin_1 ⟨Nat.zero_le _, Nat.zero_le _⟩) hS (fun H locs hkp hS => ?_)
  have hP := hkp _ _ _ hP
  refine lv_if_ne (tgt := 11) hx hb d_X_coin_4 (by decide) (fun hc4 => ?_) (fun hc4 => ?_)
  · skip
    rw [bI_0] at hc4
    rw [Bool.not_eq_false] at hc4
    have hp0 := jv_t hj hc4
    have hk := jv_key hj hp0
    have hbg := ma_big hk
    have hp3 := hk.1.1
    have hq3 := hk.2.1.1
    have hp9 := hk.1.2.1
    have hq9 := hk.2.1.2.1
    have hkf := ma_keyf hk
    refine lv_aload_n hx hb d_X_coin_11 rfl (lv_at hl 0 rfl) ?_
    refine lv_lload_n hx hb d_X_coin_12 rfl (lv_at hl 1 rfl) ?_
    refine pu_i (va_runV (As := [.long x]) (rest := []) ⟨hx, hb, hml, hown, hts⟩ (c_X_isSeal l dC dI h0 q0 cA p q cx rd cl tt bc g x hk) (cwV 1 hts (al_V (k_X_isSeal) (aw_t101) (aw_t103) (aw_p5) (aw_t1)) rfl rfl rfl (by decide +kernel) ⟨Nat.le_of_ble_eq_true rfl, Nat.le_of_ble_eq_true rfl⟩) (pu_preV (q0 := 0) (ci := 0) hK hP rfl rfl) rfl rfl hl.1 rfl (lv_room (Nat.le_of_ble_eq_true rfl)) d_X_coin_13 ⟨Nat.zero_le _, Nat.zero_le _⟩) hS (fun H locs hkp hS => ?_)
    have hP := hkp _ _ _ hP
    refine lv_if_ne (tgt := 23) hx hb d_X_coin_16 (by decide) (fun hc16 => ?_) (fun hc16 => ?_)
    · skip
      rw [bI_0] at hc16
      rw [Bool.not_eq_false] at hc16
      obtain ⟨a, ha1, ha2, ha3, ha4, ha5, rfl⟩ := sp_isS_of hc16
      refine lv_aload_n hx hb d_X_coin_23 rfl (lv_at hl 0 rfl) ?_
      refine lv_lload_n hx hb d_X_coin_24 rfl (lv_at hl 1 rfl) ?_
      refine pu_l (va_runV (As := [.long (lN a)]) (rest := []) ⟨hx, hb, hml, hown, hts⟩ (c_X_coinIn l dC dI h0 q0 cA p q cx rd cl tt bc g a hk ha3) (cwV 1 hts (al_V (k_X_coinIn) (aw_t113) (aw_t115) (aw_p7) (aw_t1)) rfl rfl rfl (by decide +kernel) ⟨Nat.le_of_ble_eq_true rfl, Nat.le_of_ble_eq_true rfl⟩) (pu_preV (q0 := 0) (ci := 0) hK hP rfl rfl) rfl rfl hl.1 rfl (lv_room (Nat.le_of_ble_eq_true rfl)) d_X_coin_25 ⟨Nat.zero_le _, Nat.zero_le _⟩) hS (fun H locs hkp hS => ?_)
      have hP := hkp _ _ _ hP
      exact pu_lret hx hb hr hS d_X_coin_28 hlocks (by simp [an_coin, hp0, hc16, lx_nat ha3])
    · skip
      rw [bI_0] at hc16
      refine lv_ldc2 (v := -4) hx hb hown (hts _ (al_m aw_t92)) d_X_coin_19 ?_
      exact pu_lret hx hb hr hS d_X_coin_22 hlocks (by simp [an_coin, hp0, hc16])
  · skip
    rw [bI_0] at hc4
    have hp0 := jv_f hj hc4
    refine lv_ldc2 (v := -1) hx hb hown (hts _ (al_m aw_t79)) d_X_coin_7 ?_
    exact pu_lret hx hb hr hS d_X_coin_10 hlocks (by simp [an_coin, hp0])

set_option maxHeartbeats 4000000 in
set_option maxRecDepth 100000 in
theorem c_X_join (l : Launch) (dC : Nat → ClassId) (dI : Nat → Nat → Nat) (h0 q0 : Nat) (cA : ClassId) (p q cx rd cl tt bc : Nat) (g : Nat → Nat) (x y : Int64) (hj : Jv p q cx rd g) : Met l y_X_join w_X_join ({ frames := 3, cells := 0, slots := 0, locals := 64 }) (va_Pc [.ref h0, .long x, .long y] (fun U => va_P (dC, dI) classes [(h0, .inr (0, [.int (nI p), .int (nI q), .int (nI (p * q)), .long (lN (p * q * (p * q))), .long (lN (sp_f p q)), .long (lN (sp_inv p q)), .long (lN (sp_cex p q)), .int (nI cx), .int (nI rd), .int (nI cl), .long (lN tt), .int (nI bc), .ref q0])), (q0, .inl (cA, 30, .inr (.inl (fun j => lN (g j)))))] U.heap ∧ va_K (dC, dI) classes [(cA, .long)] U)) (qL (an_join p q x y)) 0 0 (fun _ => False) := by
  refine Met.ofW (cc := b_X_join) (maxL := 5) (ret := some .long) (by decide) rfl ?_
  intro pg ev s mi args below meth co s₁ B hml hv
  obtain ⟨rfl, hP, hK⟩ := hv
  have hx := B.exec
  have hb := B.bytes
  have hr := B.returns
  have hts := atoms_spec (ws := w_X_join) B.pre
  have hown : s.vm.findClass R_X = some mi.cls := findClass_of_methodNamed B.named
  have hlocks := B.notSynchronized
  have hS : va_S (fun _ => False) s.heap s.heap [] := va_S.rf
  have hP : va_P (dC, dI) classes [(h0, .inr (0, [.int (nI p), .int (nI q), .int (nI (p * q)), .long (lN (p * q * (p * q))), .long (lN (sp_f p q)), .long (lN (sp_inv p q)), .long (lN (sp_cex p q)), .int (nI cx), .int (nI rd), .int (nI cl), .long (lN tt), .int (nI bc), .ref q0])), (q0, .inl (cA, 30, .inr (.inl (fun j => lN (g j)))))] s.heap := hP
  have hl := lv_entry ([.ref h0, .long x, .long y]) (n := 5) (Nat.le_of_ble_eq_true rfl)
  rw [lg_entry_eq]
  generalize (lg_sl ([.ref h0, .long x, .long y]) ++ List.replicate (5 - (lg_sl ([.ref h0, .long x, .long y])).length) Slot.unset).toArray = ls at hl ⊢
  have hl : lv_has ls 5 [(0, .ref h0), (1, .long x), (3, .long y)] := hl
  have hjn := jv_n hj
  refine lv_aload_n hx hb d_X_join_0 rfl (lv_at hl 0 rfl) ?_
  refine pu_i (va_runV (As := []) (rest := []) ⟨hx, hb, hml, hown, hts⟩ (c_X_hasKey l dC dI h0 q0 cA p q cx rd cl tt bc g (by omega)) (cwV 0 hts (al_V (k_X_hasKey) (aw_t75) (aw_t77) (aw_p0) (aw_t1)) rfl rfl rfl (by decide +kernel) ⟨Nat.le_of_ble_eq_true rfl, Nat.le_of_ble_eq_true rfl⟩) (pu_preV (q0 := 0) (ci := 0) hK hP rfl rfl) rfl rfl hl.1 rfl (lv_room (Nat.le_of_ble_eq_true rfl)) d_X_join_1 ⟨Nat.zero_le _, Nat.zero_le _⟩) hS (fun H locs hkp hS => ?_)
  have hP := hkp _ _ _ hP
  refine lv_if_ne (tgt := 11) hx hb d_X_join_4 (by decide) (fun hc4 => ?_) (fun hc4 => ?_)
  · skip
    rw [bI_0] at hc4
    rw [Bool.not_eq_false] at hc4
    have hp0 := jv_t hj hc4
    have hk := jv_key hj hp0
    have hbg := ma_big hk
    have hp3 := hk.1.1
    have hq3 := hk.2.1.1
    have hp9 := hk.1.2.1
    have hq9 := hk.2.1.2.1
    have hkf := ma_keyf hk
    refine lv_aload_n hx hb d_X_join_11 rfl (lv_at hl 0 rfl) ?_
    refine lv_lload_n hx hb d_X_join_12 rfl (lv_at hl 1 rfl) ?_
    refine pu_i (va_runV (As := [.long x]) (rest := []) ⟨hx, hb, hml, hown, hts⟩ (c_X_isSeal l dC dI h0 q0 cA p q cx rd cl tt bc g x hk) (cwV 1 hts (al_V (k_X_isSeal) (aw_t101) (aw_t103) (aw_p5) (aw_t1)) rfl rfl rfl (by decide +kernel) ⟨Nat.le_of_ble_eq_true rfl, Nat.le_of_ble_eq_true rfl⟩) (pu_preV (q0 := 0) (ci := 0) hK hP rfl rfl) rfl rfl hl.1 rfl (lv_room (Nat.le_of_ble_eq_true rfl)) d_X_join_13 ⟨Nat.zero_le _, Nat.zero_le _⟩) hS (fun H locs hkp hS => ?_)
    have hP := hkp _ _ _ hP
    refine lv_if_eq (tgt := 27) hx hb d_X_join_16 (by decide) (fun hc16 => ?_) (fun hc16 => ?_)
    · skip
      rw [bI_0] at hc16
      refine lv_ldc2 (v := -4) hx hb hown (hts _ (al_m aw_t92)) d_X_join_27 ?_
      exact pu_lret hx hb hr hS d_X_join_30 hlocks (by simp [an_join, hp0, hc16])
    · skip
      rw [bI_0] at hc16
      rw [Bool.not_eq_false] at hc16
      refine lv_aload_n hx hb d_X_join_19 rfl (lv_at hl 0 rfl) ?_
      refine lv_lload_n hx hb d_X_join_20 rfl (lv_at hl 2 rfl) ?_
      refine pu_i (va_runV (As := [.long y]) (rest := []) ⟨hx, hb, hml, hown, hts⟩ (c_X_isSeal l dC dI h0 q0 cA p q cx rd cl tt bc g y hk) (cwV 1 hts (al_V (k_X_isSeal) (aw_t101) (aw_t103) (aw_p5) (aw_t1)) rfl rfl rfl (by decide +kernel) ⟨Nat.le_of_ble_eq_true rfl, Nat.le_of_ble_eq_true rfl⟩) (pu_preV (q0 := 0) (ci := 0) hK hP rfl rfl) rfl rfl hl.1 rfl (lv_room (Nat.le_of_ble_eq_true rfl)) d_X_join_21 ⟨Nat.zero_le _, Nat.zero_le _⟩) hS (fun H locs hkp hS => ?_)
      have hP := hkp _ _ _ hP
      refine lv_if_ne (tgt := 31) hx hb d_X_join_24 (by decide) (fun hc24 => ?_) (fun hc24 => ?_)
      · skip
        rw [bI_0] at hc24
        rw [Bool.not_eq_false] at hc24
        obtain ⟨a, ha1, ha2, ha3, ha4, ha5, rfl⟩ := sp_isS_of hc16
        obtain ⟨b, hb1, hb2, hb3, hb4, hb5, rfl⟩ := sp_isS_of hc24
        refine lv_lload_n hx hb d_X_join_31 rfl (lv_at hl 1 rfl) ?_
        refine lv_lload_n hx hb d_X_join_32 rfl (lv_at hl 2 rfl) ?_
        refine lv_lmul hx hb d_X_join_33 ?_
        refine wk_l (y := lN (a * b)) (lN_mul a b) ?_
        refine lv_aload_n hx hb d_X_join_34 rfl (lv_at hl 0 rfl) ?_
        refine va_get (D := (dC, dI)) (ci := 0) (v := .long (lN (p * q * (p * q)))) (C := R_X) (T := F_X) (N := 13) hx hb hts f_X hown hK hP 0 rfl rfl 3 (by decide) (hts _ (al_m aw_t16)) (fun _ h9 => h9) rfl d_X_join_35 ?_
        refine lv_lrem hx hb d_X_join_38 (lN_ne0 (by omega) (by omega)) ?_
        refine wk_l (y := lN (a * b % (p * q * (p * q)))) (pk_lRem (rs_lt ha2 hb2 (by omega)) (by omega) (by omega)) ?_
        exact pu_lret hx hb hr hS d_X_join_39 hlocks (by simp [an_join, hp0, hc16, hc24, lx_nat ha3, lx_nat hb3])
      · skip
        rw [bI_0] at hc24
        refine lv_ldc2 (v := -4) hx hb hown (hts _ (al_m aw_t92)) d_X_join_27 ?_
        exact pu_lret hx hb hr hS d_X_join_30 hlocks (by simp [an_join, hp0, hc16, hc24])
  · skip
    rw [bI_0] at hc4
    have hp0 := jv_f hj hc4
    refine lv_ldc2 (v := -1) hx hb hown (hts _ (al_m aw_t79)) d_X_join_7 ?_
    exact pu_lret hx hb hr hS d_X_join_10 hlocks (by simp [an_join, hp0])

set_option maxHeartbeats 4000000 in
set_option maxRecDepth 100000 in
theorem c_X_power (l : Launch) (dC : Nat → ClassId) (dI : Nat → Nat → Nat) (h0 q0 : Nat) (cA : ClassId) (p q cx rd cl tt bc : Nat) (g : Nat → Nat) (x : Int64) (y : Int32) (hj : Jv p q cx rd g) : Met l y_X_power w_X_power ({ frames := 3, cells := 0, slots := 0, locals := 64 }) (va_Pc [.ref h0, .long x, .int y] (fun U => va_P (dC, dI) classes [(h0, .inr (0, [.int (nI p), .int (nI q), .int (nI (p * q)), .long (lN (p * q * (p * q))), .long (lN (sp_f p q)), .long (lN (sp_inv p q)), .long (lN (sp_cex p q)), .int (nI cx), .int (nI rd), .int (nI cl), .long (lN tt), .int (nI bc), .ref q0])), (q0, .inl (cA, 30, .inr (.inl (fun j => lN (g j)))))] U.heap ∧ va_K (dC, dI) classes [(cA, .long)] U)) (qL (an_power p q x y)) 0 0 (fun _ => False) := by
  refine Met.ofW (cc := b_X_power) (maxL := 6) (ret := some .long) (by decide) rfl ?_
  intro pg ev s mi args below meth co s₁ B hml hv
  obtain ⟨rfl, hP, hK⟩ := hv
  have hx := B.exec
  have hb := B.bytes
  have hr := B.returns
  have hts := atoms_spec (ws := w_X_power) B.pre
  have hown : s.vm.findClass R_X = some mi.cls := findClass_of_methodNamed B.named
  have hlocks := B.notSynchronized
  have hS : va_S (fun _ => False) s.heap s.heap [] := va_S.rf
  have hP : va_P (dC, dI) classes [(h0, .inr (0, [.int (nI p), .int (nI q), .int (nI (p * q)), .long (lN (p * q * (p * q))), .long (lN (sp_f p q)), .long (lN (sp_inv p q)), .long (lN (sp_cex p q)), .int (nI cx), .int (nI rd), .int (nI cl), .long (lN tt), .int (nI bc), .ref q0])), (q0, .inl (cA, 30, .inr (.inl (fun j => lN (g j)))))] s.heap := hP
  have hl := lv_entry ([.ref h0, .long x, .int y]) (n := 6) (Nat.le_of_ble_eq_true rfl)
  rw [lg_entry_eq]
  generalize (lg_sl ([.ref h0, .long x, .int y]) ++ List.replicate (6 - (lg_sl ([.ref h0, .long x, .int y])).length) Slot.unset).toArray = ls at hl ⊢
  have hl : lv_has ls 6 [(0, .ref h0), (1, .long x), (3, .int y)] := hl
  have hjn := jv_n hj
  refine lv_aload_n hx hb d_X_power_0 rfl (lv_at hl 0 rfl) ?_
  refine pu_i (va_runV (As := []) (rest := []) ⟨hx, hb, hml, hown, hts⟩ (c_X_hasKey l dC dI h0 q0 cA p q cx rd cl tt bc g (by omega)) (cwV 0 hts (al_V (k_X_hasKey) (aw_t75) (aw_t77) (aw_p0) (aw_t1)) rfl rfl rfl (by decide +kernel) ⟨Nat.le_of_ble_eq_true rfl, Nat.le_of_ble_eq_true rfl⟩) (pu_preV (q0 := 0) (ci := 0) hK hP rfl rfl) rfl rfl hl.1 rfl (lv_room (Nat.le_of_ble_eq_true rfl)) d_X_power_1 ⟨Nat.zero_le _, Nat.zero_le _⟩) hS (fun H locs hkp hS => ?_)
  have hP := hkp _ _ _ hP
  refine lv_if_ne (tgt := 11) hx hb d_X_power_4 (by decide) (fun hc4 => ?_) (fun hc4 => ?_)
  · skip
    rw [bI_0] at hc4
    rw [Bool.not_eq_false] at hc4
    have hp0 := jv_t hj hc4
    have hk := jv_key hj hp0
    have hbg := ma_big hk
    have hp3 := hk.1.1
    have hq3 := hk.2.1.1
    have hp9 := hk.1.2.1
    have hq9 := hk.2.1.2.1
    have hkf := ma_keyf hk
    refine lv_aload_n hx hb d_X_power_11 rfl (lv_at hl 0 rfl) ?_
    refine lv_lload_n hx hb d_X_power_12 rfl (lv_at hl 1 rfl) ?_
    refine pu_i (va_runV (As := [.long x]) (rest := []) ⟨hx, hb, hml, hown, hts⟩ (c_X_isSeal l dC dI h0 q0 cA p q cx rd cl tt bc g x hk) (cwV 1 hts (al_V (k_X_isSeal) (aw_t101) (aw_t103) (aw_p5) (aw_t1)) rfl rfl rfl (by decide +kernel) ⟨Nat.le_of_ble_eq_true rfl, Nat.le_of_ble_eq_true rfl⟩) (pu_preV (q0 := 0) (ci := 0) hK hP rfl rfl) rfl rfl hl.1 rfl (lv_room (Nat.le_of_ble_eq_true rfl)) d_X_power_13 ⟨Nat.zero_le _, Nat.zero_le _⟩) hS (fun H locs hkp hS => ?_)
    have hP := hkp _ _ _ hP
    refine lv_if_ne (tgt := 23) hx hb d_X_power_16 (by decide) (fun hc16 => ?_) (fun hc16 => ?_)
    · skip
      rw [bI_0] at hc16
      rw [Bool.not_eq_false] at hc16
      obtain ⟨a, ha1, ha2, ha3, ha4, ha5, rfl⟩ := sp_isS_of hc16
      refine lv_iload_n hx hb d_X_power_23 rfl (lv_at hl 2 rfl) ?_
      refine lv_i2l (v := Int32.toInt64 y) hx hb d_X_power_24 (rfl) ?_
      refine lv_aload_n hx hb d_X_power_25 rfl (lv_at hl 0 rfl) ?_
      refine va_get (D := (dC, dI)) (ci := 0) (v := .int (nI (p * q))) (C := R_X) (T := F_X) (N := 13) hx hb hts f_X hown hK hP 0 rfl rfl 2 (by decide) (hts _ (al_m aw_t15)) (fun _ h9 => h9) rfl d_X_power_26 ?_
      refine lv_i2l (v := lN (p * q)) hx hb d_X_power_29 (nI_l (by omega)) ?_
      refine lv_aload_n hx hb d_X_power_30 rfl (lv_at hl 0 rfl) ?_
      refine va_get (D := (dC, dI)) (ci := 0) (v := .long (lN (sp_f p q))) (C := R_X) (T := F_X) (N := 13) hx hb hts f_X hown hK hP 0 rfl rfl 4 (by decide) (hts _ (al_m aw_t17)) (fun _ h9 => h9) rfl d_X_power_31 ?_
      refine lv_lmul hx hb d_X_power_34 ?_
      refine wk_l (y := lN ((p * q) * (sp_f p q))) (lN_mul (p * q) (sp_f p q)) ?_
      refine pu_l (va_runS (As := [.long (Int32.toInt64 y), .long (lN ((p * q) * (sp_f p q)))]) (rest := []) ⟨hx, hb, hml, hown, hts⟩ (c_J_floorMod l (Int32.toInt64 y) (p * q * sp_f p q) (ex_pos hk) (ex_lt hk)) (va_cwS 2 hts (al_S (k_J_floorMod) (aw_t125) (aw_t126) (aw_t3)) rfl rfl rfl (by decide +kernel) ⟨Nat.le_of_ble_eq_true rfl, Nat.le_of_ble_eq_true rfl⟩) pu_preS rfl rfl hl.1 rfl (lv_room (Nat.le_of_ble_eq_true rfl)) d_X_power_35 ⟨Nat.zero_le _, Nat.zero_le _⟩) hS (fun H locs hkp hS => ?_)
      have hP := hkp _ _ _ hP
      refine wk_l (y := lN ((y.toInt % ((p * q * sp_f p q : Nat) : Int)).toNat)) (by rw [Int32.toInt_toInt64]) ?_
      refine lv_lstore (lv' := [(4, .long (lN ((y.toInt % ((p * q * sp_f p q : Nat) : Int)).toNat))), (0, .ref h0), (1, .long (lN a)), (3, .int y)]) hx hb d_X_power_38 hl (by decide) rfl (fun ls hl => ?_)
      refine lv_lload_n hx hb d_X_power_40 rfl (lv_at hl 2 rfl) ?_
      refine lv_lload hx hb d_X_power_41 (lv_at hl 0 rfl) ?_
      refine lv_aload_n hx hb d_X_power_43 rfl (lv_at hl 1 rfl) ?_
      refine va_get (D := (dC, dI)) (ci := 0) (v := .long (lN (p * q * (p * q)))) (C := R_X) (T := F_X) (N := 13) hx hb hts f_X hown hK hP 0 rfl rfl 3 (by decide) (hts _ (al_m aw_t16)) (fun _ h9 => h9) rfl d_X_power_44 ?_
      refine pu_l (va_runS (As := [.long (lN a), .long (lN ((y.toInt % ((p * q * sp_f p q : Nat) : Int)).toNat)), .long (lN (p * q * (p * q)))]) (rest := []) ⟨hx, hb, hml, hown, hts⟩ (c_X_raised l a ((y.toInt % ((p * q * sp_f p q : Nat) : Int)).toNat) (p * q * (p * q)) (ex_32 hk y) (by omega) (by omega) ha2) (va_cwS 3 hts (al_S (k_X_raised) (aw_t64) (aw_t65) (aw_t1)) rfl rfl rfl (by decide +kernel) ⟨Nat.le_of_ble_eq_true rfl, Nat.le_of_ble_eq_true rfl⟩) pu_preS rfl rfl hl.1 rfl (lv_room (Nat.le_of_ble_eq_true rfl)) d_X_power_47 ⟨Nat.zero_le _, Nat.zero_le _⟩) hS (fun H locs hkp hS => ?_)
      have hP := hkp _ _ _ hP
      exact pu_lret hx hb hr hS d_X_power_50 hlocks (by simp only [an_power, if_neg hp0, hc16, if_true, lx_nat ha3])
    · skip
      rw [bI_0] at hc16
      refine lv_ldc2 (v := -4) hx hb hown (hts _ (al_m aw_t92)) d_X_power_19 ?_
      exact pu_lret hx hb hr hS d_X_power_22 hlocks (by simp [an_power, hp0, hc16])
  · skip
    rw [bI_0] at hc4
    have hp0 := jv_f hj hc4
    refine lv_ldc2 (v := -1) hx hb hown (hts _ (al_m aw_t79)) d_X_power_7 ?_
    exact pu_lret hx hb hr hS d_X_power_10 hlocks (by simp [an_power, hp0])

set_option maxHeartbeats 4000000 in
set_option maxRecDepth 100000 in
theorem c_X_choice (l : Launch) (dC : Nat → ClassId) (dI : Nat → Nat → Nat) (h0 q0 : Nat) (cA : ClassId) (p q cx rd cl tt bc : Nat) (g : Nat → Nat) (x : Int32) (y : Int64) (hj : Jv p q cx rd g) (hrd : rd < 2 ^ 31) : Met l y_X_choice w_X_choice ({ frames := 3, cells := 0, slots := 0, locals := 64 }) (va_Pc [.ref h0, .int x, .long y] (fun U => va_P (dC, dI) classes [(h0, .inr (0, [.int (nI p), .int (nI q), .int (nI (p * q)), .long (lN (p * q * (p * q))), .long (lN (sp_f p q)), .long (lN (sp_inv p q)), .long (lN (sp_cex p q)), .int (nI cx), .int (nI rd), .int (nI cl), .long (lN tt), .int (nI bc), .ref q0])), (q0, .inl (cA, 30, .inr (.inl (fun j => lN (g j)))))] U.heap ∧ va_K (dC, dI) classes [(cA, .long)] U)) (qL (an_choice p q cx rd x y)) 0 0 (fun _ => False) := by
  refine Met.ofW (cc := b_X_choice) (maxL := 4) (ret := some .long) (by decide) rfl ?_
  intro pg ev s mi args below meth co s₁ B hml hv
  obtain ⟨rfl, hP, hK⟩ := hv
  have hx := B.exec
  have hb := B.bytes
  have hr := B.returns
  have hts := atoms_spec (ws := w_X_choice) B.pre
  have hown : s.vm.findClass R_X = some mi.cls := findClass_of_methodNamed B.named
  have hlocks := B.notSynchronized
  have hS : va_S (fun _ => False) s.heap s.heap [] := va_S.rf
  have hP : va_P (dC, dI) classes [(h0, .inr (0, [.int (nI p), .int (nI q), .int (nI (p * q)), .long (lN (p * q * (p * q))), .long (lN (sp_f p q)), .long (lN (sp_inv p q)), .long (lN (sp_cex p q)), .int (nI cx), .int (nI rd), .int (nI cl), .long (lN tt), .int (nI bc), .ref q0])), (q0, .inl (cA, 30, .inr (.inl (fun j => lN (g j)))))] s.heap := hP
  have hl := lv_entry ([.ref h0, .int x, .long y]) (n := 4) (Nat.le_of_ble_eq_true rfl)
  rw [lg_entry_eq]
  generalize (lg_sl ([.ref h0, .int x, .long y]) ++ List.replicate (4 - (lg_sl ([.ref h0, .int x, .long y])).length) Slot.unset).toArray = ls at hl ⊢
  have hl : lv_has ls 4 [(0, .ref h0), (1, .int x), (2, .long y)] := hl
  have hjn := jv_n hj
  refine lv_aload_n hx hb d_X_choice_0 rfl (lv_at hl 0 rfl) ?_
  refine pu_i (va_runV (As := []) (rest := []) ⟨hx, hb, hml, hown, hts⟩ (c_X_hasBox l dC dI h0 q0 cA p q cx rd cl tt bc g (by omega)) (cwV 0 hts (al_V (k_X_hasBox) (aw_t143) (aw_t145) (aw_p9) (aw_t1)) rfl rfl rfl (by decide +kernel) ⟨Nat.le_of_ble_eq_true rfl, Nat.le_of_ble_eq_true rfl⟩) (pu_preV (q0 := 0) (ci := 0) hK hP rfl rfl) rfl rfl hl.1 rfl (lv_room (Nat.le_of_ble_eq_true rfl)) d_X_choice_1 ⟨Nat.zero_le _, Nat.zero_le _⟩) hS (fun H locs hkp hS => ?_)
  have hP := hkp _ _ _ hP
  refine lv_if_ne (tgt := 11) hx hb d_X_choice_4 (by decide) (fun hc4 => ?_) (fun hc4 => ?_)
  · skip
    rw [bI_0] at hc4
    rw [Bool.not_eq_false] at hc4
    have hx0 := bx_t hc4
    obtain ⟨hk, hx1, hx6, hr2, hrp, hgj⟩ := jv_box hj hx0
    have hbg := ma_big hk
    have hp3 := hk.1.1
    have hq3 := hk.2.1.1
    have hp9 := hk.1.2.1
    have hq9 := hk.2.1.2.1
    have hkf := ma_keyf hk
    refine lv_aload_n hx hb d_X_choice_11 rfl (lv_at hl 0 rfl) ?_
    refine lv_iload_n hx hb d_X_choice_12 rfl (lv_at hl 1 rfl) ?_
    refine pu_i (va_runV (As := [.int x]) (rest := []) ⟨hx, hb, hml, hown, hts⟩ (c_X_isCandidate l dC dI h0 q0 cA p q cx rd cl tt bc g x (by omega)) (cwV 1 hts (al_V (k_X_isCandidate) (aw_t148) (aw_t150) (aw_p10) (aw_t1)) rfl rfl rfl (by decide +kernel) ⟨Nat.le_of_ble_eq_true rfl, Nat.le_of_ble_eq_true rfl⟩) (pu_preV (q0 := 0) (ci := 0) hK hP rfl rfl) rfl rfl hl.1 rfl (lv_room (Nat.le_of_ble_eq_true rfl)) d_X_choice_13 ⟨Nat.zero_le _, Nat.zero_le _⟩) hS (fun H locs hkp hS => ?_)
    have hP := hkp _ _ _ hP
    refine lv_if_eq (tgt := 27) hx hb d_X_choice_16 (by decide) (fun hc16 => ?_) (fun hc16 => ?_)
    · skip
      rw [bI_0] at hc16
      refine lv_ldc2 (v := -4) hx hb hown (hts _ (al_m aw_t92)) d_X_choice_27 ?_
      exact pu_lret hx hb hr hS d_X_choice_30 hlocks (by simp [an_choice, hx0, hc16])
    · skip
      rw [bI_0] at hc16
      rw [Bool.not_eq_false] at hc16
      refine lv_aload_n hx hb d_X_choice_19 rfl (lv_at hl 0 rfl) ?_
      refine lv_lload_n hx hb d_X_choice_20 rfl (lv_at hl 2 rfl) ?_
      refine pu_i (va_runV (As := [.long y]) (rest := []) ⟨hx, hb, hml, hown, hts⟩ (c_X_isCoin l dC dI h0 q0 cA p q cx rd cl tt bc g y hk) (cwV 1 hts (al_V (k_X_isCoin) (aw_t84) (aw_t86) (aw_p2) (aw_t1)) rfl rfl rfl (by decide +kernel) ⟨Nat.le_of_ble_eq_true rfl, Nat.le_of_ble_eq_true rfl⟩) (pu_preV (q0 := 0) (ci := 0) hK hP rfl rfl) rfl rfl hl.1 rfl (lv_room (Nat.le_of_ble_eq_true rfl)) d_X_choice_21 ⟨Nat.zero_le _, Nat.zero_le _⟩) hS (fun H locs hkp hS => ?_)
      have hP := hkp _ _ _ hP
      refine lv_if_ne (tgt := 31) hx hb d_X_choice_24 (by decide) (fun hc24 => ?_) (fun hc24 => ?_)
      · skip
        rw [bI_0] at hc24
        rw [Bool.not_eq_false] at hc24
        obtain ⟨a, ha1, ha2, rfl⟩ := sp_cand_of hc16
        obtain ⟨b, hb1, hb2, hb3, hb4, hb5, rfl⟩ := sp_isC_of hc24
        refine lv_aload_n hx hb d_X_choice_31 rfl (lv_at hl 0 rfl) ?_
        refine lv_aload_n hx hb d_X_choice_32 rfl (lv_at hl 0 rfl) ?_
        refine lv_iload_n hx hb d_X_choice_33 rfl (lv_at hl 1 rfl) ?_
        refine pu_l (va_runV (As := [.int (nI a)]) (rest := [.ref h0]) ⟨hx, hb, hml, hown, hts⟩ (c_X_radixPower l dC dI h0 q0 cA p q cx rd cl tt bc g a hrd ha2) (cwV 1 hts (al_V (k_X_radixPower) (aw_t152) (aw_t154) (aw_p11) (aw_t1)) rfl rfl rfl (by decide +kernel) ⟨Nat.le_of_ble_eq_true rfl, Nat.le_of_ble_eq_true rfl⟩) (pu_preV (q0 := 0) (ci := 0) hK hP rfl rfl) rfl rfl hl.1 rfl (lv_room (Nat.le_of_ble_eq_true rfl)) d_X_choice_34 ⟨Nat.zero_le _, Nat.zero_le _⟩) hS (fun H locs hkp hS => ?_)
        have hP := hkp _ _ _ hP
        refine lv_lload_n hx hb d_X_choice_37 rfl (lv_at hl 2 rfl) ?_
        refine pu_l (va_runV (As := [.long (lN (rd ^ a)), .long (lN b)]) (rest := []) ⟨hx, hb, hml, hown, hts⟩ (c_X_sealing l dC dI h0 q0 cA p q cx rd cl tt bc g (rd ^ a) b hk (rp_lt ha1 hr2 hrp) (Nat.lt_of_lt_of_le hb2 (Nat.le_mul_of_pos_left _ (by omega)))) (cwV 2 hts (al_V (k_X_sealing) (aw_t93) (aw_t95) (aw_p4) (aw_t1)) rfl rfl rfl (by decide +kernel) ⟨Nat.le_of_ble_eq_true rfl, Nat.le_of_ble_eq_true rfl⟩) (pu_preV (q0 := 0) (ci := 0) hK hP rfl rfl) rfl rfl hl.1 rfl (lv_room (Nat.le_of_ble_eq_true rfl)) d_X_choice_38 ⟨Nat.zero_le _, Nat.zero_le _⟩) hS (fun H locs hkp hS => ?_)
        have hP := hkp _ _ _ hP
        exact pu_lret hx hb hr hS d_X_choice_41 hlocks (by simp [an_choice, hx0, hc16, hc24, ix_nat ha2, lx_nat hb3])
      · skip
        rw [bI_0] at hc24
        refine lv_ldc2 (v := -4) hx hb hown (hts _ (al_m aw_t92)) d_X_choice_27 ?_
        exact pu_lret hx hb hr hS d_X_choice_30 hlocks (by simp [an_choice, hx0, hc16, hc24])
  · skip
    rw [bI_0] at hc4
    have hx0 := bx_f hc4
    refine lv_ldc2 (v := -2) hx hb hown (hts _ (al_m aw_t147)) d_X_choice_7 ?_
    exact pu_lret hx hb hr hS d_X_choice_10 hlocks (by simp [an_choice, hx0])

set_option maxHeartbeats 4000000 in
set_option maxRecDepth 100000 in
theorem c_X_ballot (l : Launch) (dC : Nat → ClassId) (dI : Nat → Nat → Nat) (h0 q0 : Nat) (cA : ClassId) (p q cx rd cl tt bc : Nat) (g : Nat → Nat) (x : Int32) (hj : Jv p q cx rd g) (hrd : rd < 2 ^ 31) : Met l y_X_ballot w_X_ballot ({ frames := 1, cells := 0, slots := 0, locals := 20 }) (va_Pc [.ref h0, .int x] (fun U => va_P (dC, dI) classes [(h0, .inr (0, [.int (nI p), .int (nI q), .int (nI (p * q)), .long (lN (p * q * (p * q))), .long (lN (sp_f p q)), .long (lN (sp_inv p q)), .long (lN (sp_cex p q)), .int (nI cx), .int (nI rd), .int (nI cl), .long (lN tt), .int (nI bc), .ref q0])), (q0, .inl (cA, 30, .inr (.inl (fun j => lN (g j)))))] U.heap ∧ va_K (dC, dI) classes [(cA, .long)] U)) (qL (an_ballot cx g x)) 0 0 (fun _ => False) := by
  refine Met.ofW (cc := b_X_ballot) (maxL := 2) (ret := some .long) (by decide) rfl ?_
  intro pg ev s mi args below meth co s₁ B hml hv
  obtain ⟨rfl, hP, hK⟩ := hv
  have hx := B.exec
  have hb := B.bytes
  have hr := B.returns
  have hts := atoms_spec (ws := w_X_ballot) B.pre
  have hown : s.vm.findClass R_X = some mi.cls := findClass_of_methodNamed B.named
  have hlocks := B.notSynchronized
  have hS : va_S (fun _ => False) s.heap s.heap [] := va_S.rf
  have hP : va_P (dC, dI) classes [(h0, .inr (0, [.int (nI p), .int (nI q), .int (nI (p * q)), .long (lN (p * q * (p * q))), .long (lN (sp_f p q)), .long (lN (sp_inv p q)), .long (lN (sp_cex p q)), .int (nI cx), .int (nI rd), .int (nI cl), .long (lN tt), .int (nI bc), .ref q0])), (q0, .inl (cA, 30, .inr (.inl (fun j => lN (g j)))))] s.heap := hP
  have hl := lv_entry ([.ref h0, .int x]) (n := 2) (Nat.le_of_ble_eq_true rfl)
  rw [lg_entry_eq]
  generalize (lg_sl ([.ref h0, .int x]) ++ List.replicate (2 - (lg_sl ([.ref h0, .int x])).length) Slot.unset).toArray = ls at hl ⊢
  have hl : lv_has ls 2 [(0, .ref h0), (1, .int x)] := hl
  have hjn := jv_n hj
  refine lv_aload_n hx hb d_X_ballot_0 rfl (lv_at hl 0 rfl) ?_
  refine pu_i (va_runV (As := []) (rest := []) ⟨hx, hb, hml, hown, hts⟩ (c_X_hasBox l dC dI h0 q0 cA p q cx rd cl tt bc g (by omega)) (cwV 0 hts (al_V (k_X_hasBox) (aw_t143) (aw_t145) (aw_p9) (aw_t1)) rfl rfl rfl (by decide +kernel) ⟨Nat.le_of_ble_eq_true rfl, Nat.le_of_ble_eq_true rfl⟩) (pu_preV (q0 := 0) (ci := 0) hK hP rfl rfl) rfl rfl hl.1 rfl (lv_room (Nat.le_of_ble_eq_true rfl)) d_X_ballot_1 ⟨Nat.zero_le _, Nat.zero_le _⟩) hS (fun H locs hkp hS => ?_)
  have hP := hkp _ _ _ hP
  refine lv_if_ne (tgt := 11) hx hb d_X_ballot_4 (by decide) (fun hc4 => ?_) (fun hc4 => ?_)
  · skip
    rw [bI_0] at hc4
    rw [Bool.not_eq_false] at hc4
    have hx0 := bx_t hc4
    obtain ⟨hk, hx1, hx6, hr2, hrp, hgj⟩ := jv_box hj hx0
    have hbg := ma_big hk
    have hp3 := hk.1.1
    have hq3 := hk.2.1.1
    have hp9 := hk.1.2.1
    have hq9 := hk.2.1.2.1
    have hkf := ma_keyf hk
    refine lv_iload_n hx hb d_X_ballot_11 rfl (lv_at hl 1 rfl) ?_
    refine pu_i (va_runS (As := [.int x]) (rest := []) ⟨hx, hb, hml, hown, hts⟩ (c_X_isVoter l x) (va_cwS 1 hts (al_S (k_X_isVoter) (aw_t160) (aw_t161) (aw_t1)) rfl rfl rfl (by decide +kernel) ⟨Nat.le_of_ble_eq_true rfl, Nat.le_of_ble_eq_true rfl⟩) pu_preS rfl rfl hl.1 rfl (lv_room (Nat.le_of_ble_eq_true rfl)) d_X_ballot_12 ⟨Nat.zero_le _, Nat.zero_le _⟩) hS (fun H locs hkp hS => ?_)
    have hP := hkp _ _ _ hP
    refine lv_if_ne (tgt := 22) hx hb d_X_ballot_15 (by decide) (fun hc15 => ?_) (fun hc15 => ?_)
    · skip
      rw [bI_0] at hc15
      rw [Bool.not_eq_false] at hc15
      obtain ⟨a, ha1, ha2, rfl⟩ := sp_cand_of hc15
      have hga := (hgj a ha1).1
      refine lv_aload_n hx hb d_X_ballot_22 rfl (lv_at hl 0 rfl) ?_
      refine va_get (D := (dC, dI)) (ci := 0) (v := .ref q0) (C := R_X) (T := F_X) (N := 13) hx hb hts f_X hown hK hP 0 rfl rfl 12 (by decide) (hts _ (al_m aw_t25)) (fun _ h9 => h9) rfl d_X_ballot_23 ?_
      refine lv_iload_n hx hb d_X_ballot_26 rfl (lv_at hl 1 rfl) ?_
      refine va_lald hx hb hK hP 1 0 rfl rfl (vp_in_nI (by omega) (by decide)) d_X_ballot_27 ?_
      refine wk_l (y := lN (g a)) (by rw [nI_clamp (by omega)]) ?_
      refine lv_lconst (v := lN 0) hx hb d_X_ballot_28 rfl ?_
      refine W.lcmp hx hb d_X_ballot_29 ?_
      refine lv_if_ne (tgt := 39) hx hb d_X_ballot_30 (by decide) (fun hc30 => ?_) (fun hc30 => ?_)
      · skip
        rw [lg_cmp_eq] at hc30
        rw [pk_lEQ (a := g a) (b := 0) (by omega) (by omega)] at hc30
        refine lv_aload_n hx hb d_X_ballot_39 rfl (lv_at hl 0 rfl) ?_
        refine va_get (D := (dC, dI)) (ci := 0) (v := .ref q0) (C := R_X) (T := F_X) (N := 13) hx hb hts f_X hown hK hP 0 rfl rfl 12 (by decide) (hts _ (al_m aw_t25)) (fun _ h9 => h9) rfl d_X_ballot_40 ?_
        refine lv_iload_n hx hb d_X_ballot_43 rfl (lv_at hl 1 rfl) ?_
        refine va_lald hx hb hK hP 1 0 rfl rfl (vp_in_nI (by omega) (by decide)) d_X_ballot_44 ?_
        refine wk_l (y := lN (g a)) (by rw [nI_clamp (by omega)]) ?_
        exact pu_lret hx hb hr hS d_X_ballot_45 hlocks (by simp [an_ballot, hx0, hc15, hc30, ix_nat ha2])
      · skip
        rw [lg_cmp_eq] at hc30
        rw [pk_lEQ (a := g a) (b := 0) (by omega) (by omega)] at hc30
        refine lv_ldc2 (v := -6) hx hb hown (hts _ (al_m aw_t168)) d_X_ballot_33 ?_
        refine lv_goto (tgt := 45) hx hb d_X_ballot_36 (by decide) ?_
        exact pu_lret hx hb hr hS d_X_ballot_45 hlocks (by simp [an_ballot, hx0, hc15, hc30, ix_nat ha2])
    · skip
      rw [bI_0] at hc15
      refine lv_ldc2 (v := -4) hx hb hown (hts _ (al_m aw_t92)) d_X_ballot_18 ?_
      exact pu_lret hx hb hr hS d_X_ballot_21 hlocks (by simp [an_ballot, hx0, hc15])
  · skip
    rw [bI_0] at hc4
    have hx0 := bx_f hc4
    refine lv_ldc2 (v := -2) hx hb hown (hts _ (al_m aw_t147)) d_X_ballot_7 ?_
    exact pu_lret hx hb hr hS d_X_ballot_10 hlocks (by simp [an_ballot, hx0])

set_option maxHeartbeats 4000000 in
set_option maxRecDepth 100000 in
theorem c_X_ballots (l : Launch) (dC : Nat → ClassId) (dI : Nat → Nat → Nat) (h0 q0 : Nat) (cA : ClassId) (p q cx rd cl tt bc : Nat) (g : Nat → Nat) (hj : Jv p q cx rd g) (hbc : bc = sp_cnt g 30) : Met l y_X_ballots w_X_ballots ({ frames := 1, cells := 0, slots := 0, locals := 20 }) (va_Pc [.ref h0] (fun U => va_P (dC, dI) classes [(h0, .inr (0, [.int (nI p), .int (nI q), .int (nI (p * q)), .long (lN (p * q * (p * q))), .long (lN (sp_f p q)), .long (lN (sp_inv p q)), .long (lN (sp_cex p q)), .int (nI cx), .int (nI rd), .int (nI cl), .long (lN tt), .int (nI bc), .ref q0])), (q0, .inl (cA, 30, .inr (.inl (fun j => lN (g j)))))] U.heap ∧ va_K (dC, dI) classes [(cA, .long)] U)) (qI (an_ballots cx g)) 0 0 (fun _ => False) := by
  refine Met.ofW (cc := b_X_ballots) (maxL := 1) (ret := some .int) (by decide) rfl ?_
  intro pg ev s mi args below meth co s₁ B hml hv
  obtain ⟨rfl, hP, hK⟩ := hv
  have hx := B.exec
  have hb := B.bytes
  have hr := B.returns
  have hts := atoms_spec (ws := w_X_ballots) B.pre
  have hown : s.vm.findClass R_X = some mi.cls := findClass_of_methodNamed B.named
  have hlocks := B.notSynchronized
  have hS : va_S (fun _ => False) s.heap s.heap [] := va_S.rf
  have hP : va_P (dC, dI) classes [(h0, .inr (0, [.int (nI p), .int (nI q), .int (nI (p * q)), .long (lN (p * q * (p * q))), .long (lN (sp_f p q)), .long (lN (sp_inv p q)), .long (lN (sp_cex p q)), .int (nI cx), .int (nI rd), .int (nI cl), .long (lN tt), .int (nI bc), .ref q0])), (q0, .inl (cA, 30, .inr (.inl (fun j => lN (g j)))))] s.heap := hP
  have hl := lv_entry ([.ref h0]) (n := 1) (Nat.le_of_ble_eq_true rfl)
  rw [lg_entry_eq]
  generalize (lg_sl ([.ref h0]) ++ List.replicate (1 - (lg_sl ([.ref h0])).length) Slot.unset).toArray = ls at hl ⊢
  have hl : lv_has ls 1 [(0, .ref h0)] := hl
  have hjn := jv_n hj
  refine lv_aload_n hx hb d_X_ballots_0 rfl (lv_at hl 0 rfl) ?_
  refine pu_i (va_runV (As := []) (rest := []) ⟨hx, hb, hml, hown, hts⟩ (c_X_hasBox l dC dI h0 q0 cA p q cx rd cl tt bc g (by omega)) (cwV 0 hts (al_V (k_X_hasBox) (aw_t143) (aw_t145) (aw_p9) (aw_t1)) rfl rfl rfl (by decide +kernel) ⟨Nat.le_of_ble_eq_true rfl, Nat.le_of_ble_eq_true rfl⟩) (pu_preV (q0 := 0) (ci := 0) hK hP rfl rfl) rfl rfl hl.1 rfl (lv_room (Nat.le_of_ble_eq_true rfl)) d_X_ballots_1 ⟨Nat.zero_le _, Nat.zero_le _⟩) hS (fun H locs hkp hS => ?_)
  have hP := hkp _ _ _ hP
  refine lv_if_eq (tgt := 14) hx hb d_X_ballots_4 (by decide) (fun hc4 => ?_) (fun hc4 => ?_)
  · skip
    rw [bI_0] at hc4
    have hx0 := bx_f hc4
    refine lv_bipush (v := -2) hx hb d_X_ballots_14 (by decide) ?_
    exact pu_iret hx hb hr hS d_X_ballots_16 hlocks (by simp [an_ballots, hx0, hbc])
  · skip
    rw [bI_0] at hc4
    rw [Bool.not_eq_false] at hc4
    have hx0 := bx_t hc4
    obtain ⟨hk, hx1, hx6, hr2, hrp, hgj⟩ := jv_box hj hx0
    have hbg := ma_big hk
    have hp3 := hk.1.1
    have hq3 := hk.2.1.1
    have hp9 := hk.1.2.1
    have hq9 := hk.2.1.2.1
    have hkf := ma_keyf hk
    refine lv_aload_n hx hb d_X_ballots_7 rfl (lv_at hl 0 rfl) ?_
    refine va_get (D := (dC, dI)) (ci := 0) (v := .int (nI bc)) (C := R_X) (T := F_X) (N := 13) hx hb hts f_X hown hK hP 0 rfl rfl 11 (by decide) (hts _ (al_m aw_t24)) (fun _ h9 => h9) rfl d_X_ballots_8 ?_
    refine lv_goto (tgt := 16) hx hb d_X_ballots_11 (by decide) ?_
    exact pu_iret hx hb hr hS d_X_ballots_16 hlocks (by simp [an_ballots, hx0, hbc])

set_option maxHeartbeats 4000000 in
set_option maxRecDepth 100000 in
theorem c_X_sum (l : Launch) (dC : Nat → ClassId) (dI : Nat → Nat → Nat) (h0 q0 : Nat) (cA : ClassId) (p q cx rd cl tt bc : Nat) (g : Nat → Nat) (hj : Jv p q cx rd g) (hrd : rd < 2 ^ 31) : Met l y_X_sum w_X_sum ({ frames := 1, cells := 0, slots := 0, locals := 23 }) (va_Pc [.ref h0] (fun U => va_P (dC, dI) classes [(h0, .inr (0, [.int (nI p), .int (nI q), .int (nI (p * q)), .long (lN (p * q * (p * q))), .long (lN (sp_f p q)), .long (lN (sp_inv p q)), .long (lN (sp_cex p q)), .int (nI cx), .int (nI rd), .int (nI cl), .long (lN tt), .int (nI bc), .ref q0])), (q0, .inl (cA, 30, .inr (.inl (fun j => lN (g j)))))] U.heap ∧ va_K (dC, dI) classes [(cA, .long)] U)) (qL (an_sum p q cx g)) 0 0 (fun _ => False) := by
  refine Met.ofW (cc := b_X_sum) (maxL := 1) (ret := some .long) (by decide) rfl ?_
  intro pg ev s mi args below meth co s₁ B hml hv
  obtain ⟨rfl, hP, hK⟩ := hv
  have hx := B.exec
  have hb := B.bytes
  have hr := B.returns
  have hts := atoms_spec (ws := w_X_sum) B.pre
  have hown : s.vm.findClass R_X = some mi.cls := findClass_of_methodNamed B.named
  have hlocks := B.notSynchronized
  have hS : va_S (fun _ => False) s.heap s.heap [] := va_S.rf
  have hP : va_P (dC, dI) classes [(h0, .inr (0, [.int (nI p), .int (nI q), .int (nI (p * q)), .long (lN (p * q * (p * q))), .long (lN (sp_f p q)), .long (lN (sp_inv p q)), .long (lN (sp_cex p q)), .int (nI cx), .int (nI rd), .int (nI cl), .long (lN tt), .int (nI bc), .ref q0])), (q0, .inl (cA, 30, .inr (.inl (fun j => lN (g j)))))] s.heap := hP
  have hl := lv_entry ([.ref h0]) (n := 1) (Nat.le_of_ble_eq_true rfl)
  rw [lg_entry_eq]
  generalize (lg_sl ([.ref h0]) ++ List.replicate (1 - (lg_sl ([.ref h0])).length) Slot.unset).toArray = ls at hl ⊢
  have hl : lv_has ls 1 [(0, .ref h0)] := hl
  have hjn := jv_n hj
  refine lv_aload_n hx hb d_X_sum_0 rfl (lv_at hl 0 rfl) ?_
  refine pu_i (va_runV (As := []) (rest := []) ⟨hx, hb, hml, hown, hts⟩ (c_X_hasBox l dC dI h0 q0 cA p q cx rd cl tt bc g (by omega)) (cwV 0 hts (al_V (k_X_hasBox) (aw_t143) (aw_t145) (aw_p9) (aw_t1)) rfl rfl rfl (by decide +kernel) ⟨Nat.le_of_ble_eq_true rfl, Nat.le_of_ble_eq_true rfl⟩) (pu_preV (q0 := 0) (ci := 0) hK hP rfl rfl) rfl rfl hl.1 rfl (lv_room (Nat.le_of_ble_eq_true rfl)) d_X_sum_1 ⟨Nat.zero_le _, Nat.zero_le _⟩) hS (fun H locs hkp hS => ?_)
  have hP := hkp _ _ _ hP
  refine lv_if_eq (tgt := 14) hx hb d_X_sum_4 (by decide) (fun hc4 => ?_) (fun hc4 => ?_)
  · skip
    rw [bI_0] at hc4
    have hx0 := bx_f hc4
    refine lv_ldc2 (v := -2) hx hb hown (hts _ (al_m aw_t147)) d_X_sum_14 ?_
    exact pu_lret hx hb hr hS d_X_sum_17 hlocks (by simp [an_sum, hx0])
  · skip
    rw [bI_0] at hc4
    rw [Bool.not_eq_false] at hc4
    have hx0 := bx_t hc4
    obtain ⟨hk, hx1, hx6, hr2, hrp, hgj⟩ := jv_box hj hx0
    have hbg := ma_big hk
    have hp3 := hk.1.1
    have hq3 := hk.2.1.1
    have hp9 := hk.1.2.1
    have hq9 := hk.2.1.2.1
    have hkf := ma_keyf hk
    refine lv_aload_n hx hb d_X_sum_7 rfl (lv_at hl 0 rfl) ?_
    refine pu_l (va_runV (As := []) (rest := []) ⟨hx, hb, hml, hown, hts⟩ (c_X_productOfBallots l dC dI h0 q0 cA p q cx rd cl tt bc g hk (fun j hj0 => (hgj j hj0).1)) (cwV 0 hts (al_V (k_X_productOfBallots) (aw_t181) (aw_t183) (aw_p12) (aw_t1)) rfl rfl rfl (by decide +kernel) ⟨Nat.le_of_ble_eq_true rfl, Nat.le_of_ble_eq_true rfl⟩) (pu_preV (q0 := 0) (ci := 0) hK hP rfl rfl) rfl rfl hl.1 rfl (lv_room (Nat.le_of_ble_eq_true rfl)) d_X_sum_8 ⟨Nat.zero_le _, Nat.zero_le _⟩) hS (fun H locs hkp hS => ?_)
    have hP := hkp _ _ _ hP
    refine lv_goto (tgt := 17) hx hb d_X_sum_11 (by decide) ?_
    exact pu_lret hx hb hr hS d_X_sum_17 hlocks (by simp [an_sum, hx0])

set_option maxHeartbeats 4000000 in
set_option maxRecDepth 100000 in
theorem c_X_votes (l : Launch) (dC : Nat → ClassId) (dI : Nat → Nat → Nat) (h0 q0 : Nat) (cA : ClassId) (p q cx rd cl tt bc : Nat) (g : Nat → Nat) (x : Int32) (hj : Jv p q cx rd g) (hrd : rd < 2 ^ 31) (hcl : cl ≤ 1) (htt : cl = 1 → cx ≠ 0 → tt = sp_msg p q (sp_prod g 30 % sq_ p q)) : Met l y_X_votes w_X_votes ({ frames := 1, cells := 0, slots := 0, locals := 24 }) (va_Pc [.ref h0, .int x] (fun U => va_P (dC, dI) classes [(h0, .inr (0, [.int (nI p), .int (nI q), .int (nI (p * q)), .long (lN (p * q * (p * q))), .long (lN (sp_f p q)), .long (lN (sp_inv p q)), .long (lN (sp_cex p q)), .int (nI cx), .int (nI rd), .int (nI cl), .long (lN tt), .int (nI bc), .ref q0])), (q0, .inl (cA, 30, .inr (.inl (fun j => lN (g j)))))] U.heap ∧ va_K (dC, dI) classes [(cA, .long)] U)) (qI (an_votes p q cx rd cl g x)) 0 0 (fun _ => False) := by
  refine Met.ofW (cc := b_X_votes) (maxL := 2) (ret := some .int) (by decide) rfl ?_
  intro pg ev s mi args below meth co s₁ B hml hv
  obtain ⟨rfl, hP, hK⟩ := hv
  have hx := B.exec
  have hb := B.bytes
  have hr := B.returns
  have hts := atoms_spec (ws := w_X_votes) B.pre
  have hown : s.vm.findClass R_X = some mi.cls := findClass_of_methodNamed B.named
  have hlocks := B.notSynchronized
  have hS : va_S (fun _ => False) s.heap s.heap [] := va_S.rf
  have hP : va_P (dC, dI) classes [(h0, .inr (0, [.int (nI p), .int (nI q), .int (nI (p * q)), .long (lN (p * q * (p * q))), .long (lN (sp_f p q)), .long (lN (sp_inv p q)), .long (lN (sp_cex p q)), .int (nI cx), .int (nI rd), .int (nI cl), .long (lN tt), .int (nI bc), .ref q0])), (q0, .inl (cA, 30, .inr (.inl (fun j => lN (g j)))))] s.heap := hP
  have hl := lv_entry ([.ref h0, .int x]) (n := 2) (Nat.le_of_ble_eq_true rfl)
  rw [lg_entry_eq]
  generalize (lg_sl ([.ref h0, .int x]) ++ List.replicate (2 - (lg_sl ([.ref h0, .int x])).length) Slot.unset).toArray = ls at hl ⊢
  have hl : lv_has ls 2 [(0, .ref h0), (1, .int x)] := hl
  have hjn := jv_n hj
  refine lv_aload_n hx hb d_X_votes_0 rfl (lv_at hl 0 rfl) ?_
  refine pu_i (va_runV (As := []) (rest := []) ⟨hx, hb, hml, hown, hts⟩ (c_X_hasBox l dC dI h0 q0 cA p q cx rd cl tt bc g (by omega)) (cwV 0 hts (al_V (k_X_hasBox) (aw_t143) (aw_t145) (aw_p9) (aw_t1)) rfl rfl rfl (by decide +kernel) ⟨Nat.le_of_ble_eq_true rfl, Nat.le_of_ble_eq_true rfl⟩) (pu_preV (q0 := 0) (ci := 0) hK hP rfl rfl) rfl rfl hl.1 rfl (lv_room (Nat.le_of_ble_eq_true rfl)) d_X_votes_1 ⟨Nat.zero_le _, Nat.zero_le _⟩) hS (fun H locs hkp hS => ?_)
  have hP := hkp _ _ _ hP
  refine lv_if_ne (tgt := 10) hx hb d_X_votes_4 (by decide) (fun hc4 => ?_) (fun hc4 => ?_)
  · skip
    rw [bI_0] at hc4
    rw [Bool.not_eq_false] at hc4
    have hx0 := bx_t hc4
    obtain ⟨hk, hx1, hx6, hr2, hrp, hgj⟩ := jv_box hj hx0
    have hbg := ma_big hk
    have hp3 := hk.1.1
    have hq3 := hk.2.1.1
    have hp9 := hk.1.2.1
    have hq9 := hk.2.1.2.1
    have hkf := ma_keyf hk
    refine lv_aload_n hx hb d_X_votes_10 rfl (lv_at hl 0 rfl) ?_
    refine lv_iload_n hx hb d_X_votes_11 rfl (lv_at hl 1 rfl) ?_
    refine pu_i (va_runV (As := [.int x]) (rest := []) ⟨hx, hb, hml, hown, hts⟩ (c_X_isCandidate l dC dI h0 q0 cA p q cx rd cl tt bc g x (by omega)) (cwV 1 hts (al_V (k_X_isCandidate) (aw_t148) (aw_t150) (aw_p10) (aw_t1)) rfl rfl rfl (by decide +kernel) ⟨Nat.le_of_ble_eq_true rfl, Nat.le_of_ble_eq_true rfl⟩) (pu_preV (q0 := 0) (ci := 0) hK hP rfl rfl) rfl rfl hl.1 rfl (lv_room (Nat.le_of_ble_eq_true rfl)) d_X_votes_12 ⟨Nat.zero_le _, Nat.zero_le _⟩) hS (fun H locs hkp hS => ?_)
    have hP := hkp _ _ _ hP
    refine lv_if_ne (tgt := 21) hx hb d_X_votes_15 (by decide) (fun hc15 => ?_) (fun hc15 => ?_)
    · skip
      rw [bI_0] at hc15
      rw [Bool.not_eq_false] at hc15
      obtain ⟨a, ha1, ha2, rfl⟩ := sp_cand_of hc15
      refine lv_aload_n hx hb d_X_votes_21 rfl (lv_at hl 0 rfl) ?_
      refine va_get (D := (dC, dI)) (ci := 0) (v := .int (nI cl)) (C := R_X) (T := F_X) (N := 13) hx hb hts f_X hown hK hP 0 rfl rfl 9 (by decide) (hts _ (al_m aw_t22)) (fun _ h9 => h9) rfl d_X_votes_22 ?_
      refine lv_if_ne (tgt := 31) hx hb d_X_votes_25 (by decide) (fun hc25 => ?_) (fun hc25 => ?_)
      · skip
        rw [← nI_0] at hc25
        rw [nI_eq (a := cl) (b := 0) (by omega) (by omega)] at hc25
        have hc1 : cl = 1 := by omega
        have htv := htt hc1 hx0
        have htl : tt < 2 ^ 63 := by rw [htv]; exact Nat.lt_trans (fa_sm hk _) (by omega)
        have hdl : tt / rd ^ a ≤ tt := Nat.div_le_self _ _
        refine lv_aload_n hx hb d_X_votes_31 rfl (lv_at hl 0 rfl) ?_
        refine va_get (D := (dC, dI)) (ci := 0) (v := .long (lN tt)) (C := R_X) (T := F_X) (N := 13) hx hb hts f_X hown hK hP 0 rfl rfl 10 (by decide) (hts _ (al_m aw_t23)) (fun _ h9 => h9) rfl d_X_votes_32 ?_
        refine lv_aload_n hx hb d_X_votes_35 rfl (lv_at hl 0 rfl) ?_
        refine lv_iload_n hx hb d_X_votes_36 rfl (lv_at hl 1 rfl) ?_
        refine pu_l (va_runV (As := [.int (nI a)]) (rest := [.long (lN tt)]) ⟨hx, hb, hml, hown, hts⟩ (c_X_radixPower l dC dI h0 q0 cA p q cx rd cl tt bc g a hrd ha2) (cwV 1 hts (al_V (k_X_radixPower) (aw_t152) (aw_t154) (aw_p11) (aw_t1)) rfl rfl rfl (by decide +kernel) ⟨Nat.le_of_ble_eq_true rfl, Nat.le_of_ble_eq_true rfl⟩) (pu_preV (q0 := 0) (ci := 0) hK hP rfl rfl) rfl rfl hl.1 rfl (lv_room (Nat.le_of_ble_eq_true rfl)) d_X_votes_37 ⟨Nat.zero_le _, Nat.zero_le _⟩) hS (fun H locs hkp hS => ?_)
        have hP := hkp _ _ _ hP
        have hra := rp_lt ha1 hr2 hrp
        have hrz : 0 < rd ^ a := Nat.pow_pos (by omega)
        refine lv_ldiv hx hb d_X_votes_40 (lN_ne0 (by omega) (by omega)) ?_
        refine wk_l (y := lN (tt / (rd ^ a))) (pk_lDiv (by omega) (by omega) (by omega)) ?_
        have hm40 := Nat.div_le_self tt (rd ^ a)
        refine lv_aload_n hx hb d_X_votes_41 rfl (lv_at hl 0 rfl) ?_
        refine va_get (D := (dC, dI)) (ci := 0) (v := .int (nI rd)) (C := R_X) (T := F_X) (N := 13) hx hb hts f_X hown hK hP 0 rfl rfl 8 (by decide) (hts _ (al_m aw_t21)) (fun _ h9 => h9) rfl d_X_votes_42 ?_
        refine lv_i2l (v := lN rd) hx hb d_X_votes_45 (nI_l (by omega)) ?_
        refine lv_lrem hx hb d_X_votes_46 (lN_ne0 (by omega) (by omega)) ?_
        refine wk_l (y := lN ((tt / (rd ^ a)) % rd)) (pk_lRem (by omega) (by omega) (by omega)) ?_
        have hm46 := Nat.mod_le (tt / (rd ^ a)) rd
        refine lv_l2i (v := nI ((tt / (rd ^ a)) % rd)) hx hb d_X_votes_47 (lN_i ((tt / (rd ^ a)) % rd)) ?_
        exact pu_iret hx hb hr hS d_X_votes_48 hlocks (by simp [an_votes, hx0, hc15, hc1, ix_nat ha2, htv])
      · skip
        rw [← nI_0] at hc25
        rw [nI_eq (a := cl) (b := 0) (by omega) (by omega)] at hc25
        refine lv_bipush (v := -6) hx hb d_X_votes_28 (by decide) ?_
        exact pu_iret hx hb hr hS d_X_votes_30 hlocks (by simp [an_votes, hx0, hc15, hc25])
    · skip
      rw [bI_0] at hc15
      refine lv_bipush (v := -4) hx hb d_X_votes_18 (by decide) ?_
      exact pu_iret hx hb hr hS d_X_votes_20 hlocks (by simp [an_votes, hx0, hc15])
  · skip
    rw [bI_0] at hc4
    have hx0 := bx_f hc4
    refine lv_bipush (v := -2) hx hb d_X_votes_7 (by decide) ?_
    exact pu_iret hx hb hr hS d_X_votes_9 hlocks (by simp [an_votes, hx0])

set_option maxHeartbeats 4000000 in
set_option maxRecDepth 100000 in
theorem c_X_witness (l : Launch) (dC : Nat → ClassId) (dI : Nat → Nat → Nat) (h0 q0 : Nat) (cA : ClassId) (p q cx rd cl tt bc : Nat) (g : Nat → Nat) (hj : Jv p q cx rd g) (hcl : cl ≤ 1) : Met l y_X_witness w_X_witness ({ frames := 2, cells := 0, slots := 0, locals := 52 }) (va_Pc [.ref h0] (fun U => va_P (dC, dI) classes [(h0, .inr (0, [.int (nI p), .int (nI q), .int (nI (p * q)), .long (lN (p * q * (p * q))), .long (lN (sp_f p q)), .long (lN (sp_inv p q)), .long (lN (sp_cex p q)), .int (nI cx), .int (nI rd), .int (nI cl), .long (lN tt), .int (nI bc), .ref q0])), (q0, .inl (cA, 30, .inr (.inl (fun j => lN (g j)))))] U.heap ∧ va_K (dC, dI) classes [(cA, .long)] U)) (qL (an_witness p q cx cl g)) 0 0 (fun _ => False) := by
  refine Met.ofW (cc := b_X_witness) (maxL := 1) (ret := some .long) (by decide) rfl ?_
  intro pg ev s mi args below meth co s₁ B hml hv
  obtain ⟨rfl, hP, hK⟩ := hv
  have hx := B.exec
  have hb := B.bytes
  have hr := B.returns
  have hts := atoms_spec (ws := w_X_witness) B.pre
  have hown : s.vm.findClass R_X = some mi.cls := findClass_of_methodNamed B.named
  have hlocks := B.notSynchronized
  have hS : va_S (fun _ => False) s.heap s.heap [] := va_S.rf
  have hP : va_P (dC, dI) classes [(h0, .inr (0, [.int (nI p), .int (nI q), .int (nI (p * q)), .long (lN (p * q * (p * q))), .long (lN (sp_f p q)), .long (lN (sp_inv p q)), .long (lN (sp_cex p q)), .int (nI cx), .int (nI rd), .int (nI cl), .long (lN tt), .int (nI bc), .ref q0])), (q0, .inl (cA, 30, .inr (.inl (fun j => lN (g j)))))] s.heap := hP
  have hl := lv_entry ([.ref h0]) (n := 1) (Nat.le_of_ble_eq_true rfl)
  rw [lg_entry_eq]
  generalize (lg_sl ([.ref h0]) ++ List.replicate (1 - (lg_sl ([.ref h0])).length) Slot.unset).toArray = ls at hl ⊢
  have hl : lv_has ls 1 [(0, .ref h0)] := hl
  have hjn := jv_n hj
  refine lv_aload_n hx hb d_X_witness_0 rfl (lv_at hl 0 rfl) ?_
  refine pu_i (va_runV (As := []) (rest := []) ⟨hx, hb, hml, hown, hts⟩ (c_X_hasBox l dC dI h0 q0 cA p q cx rd cl tt bc g (by omega)) (cwV 0 hts (al_V (k_X_hasBox) (aw_t143) (aw_t145) (aw_p9) (aw_t1)) rfl rfl rfl (by decide +kernel) ⟨Nat.le_of_ble_eq_true rfl, Nat.le_of_ble_eq_true rfl⟩) (pu_preV (q0 := 0) (ci := 0) hK hP rfl rfl) rfl rfl hl.1 rfl (lv_room (Nat.le_of_ble_eq_true rfl)) d_X_witness_1 ⟨Nat.zero_le _, Nat.zero_le _⟩) hS (fun H locs hkp hS => ?_)
  have hP := hkp _ _ _ hP
  refine lv_if_ne (tgt := 11) hx hb d_X_witness_4 (by decide) (fun hc4 => ?_) (fun hc4 => ?_)
  · skip
    rw [bI_0] at hc4
    rw [Bool.not_eq_false] at hc4
    have hx0 := bx_t hc4
    obtain ⟨hk, hx1, hx6, hr2, hrp, hgj⟩ := jv_box hj hx0
    have hbg := ma_big hk
    have hp3 := hk.1.1
    have hq3 := hk.2.1.1
    have hp9 := hk.1.2.1
    have hq9 := hk.2.1.2.1
    have hkf := ma_keyf hk
    refine lv_aload_n hx hb d_X_witness_11 rfl (lv_at hl 0 rfl) ?_
    refine va_get (D := (dC, dI)) (ci := 0) (v := .int (nI cl)) (C := R_X) (T := F_X) (N := 13) hx hb hts f_X hown hK hP 0 rfl rfl 9 (by decide) (hts _ (al_m aw_t22)) (fun _ h9 => h9) rfl d_X_witness_12 ?_
    refine lv_if_ne (tgt := 22) hx hb d_X_witness_15 (by decide) (fun hc15 => ?_) (fun hc15 => ?_)
    · skip
      rw [← nI_0] at hc15
      rw [nI_eq (a := cl) (b := 0) (by omega) (by omega)] at hc15
      refine lv_aload_n hx hb d_X_witness_22 rfl (lv_at hl 0 rfl) ?_
      refine lv_aload_n hx hb d_X_witness_23 rfl (lv_at hl 0 rfl) ?_
      refine pu_l (va_runV (As := []) (rest := [.ref h0]) ⟨hx, hb, hml, hown, hts⟩ (c_X_productOfBallots l dC dI h0 q0 cA p q cx rd cl tt bc g hk (fun j hj0 => (hgj j hj0).1)) (cwV 0 hts (al_V (k_X_productOfBallots) (aw_t181) (aw_t183) (aw_p12) (aw_t1)) rfl rfl rfl (by decide +kernel) ⟨Nat.le_of_ble_eq_true rfl, Nat.le_of_ble_eq_true rfl⟩) (pu_preV (q0 := 0) (ci := 0) hK hP rfl rfl) rfl rfl hl.1 rfl (lv_room (Nat.le_of_ble_eq_true rfl)) d_X_witness_24 ⟨Nat.zero_le _, Nat.zero_le _⟩) hS (fun H locs hkp hS => ?_)
      have hP := hkp _ _ _ hP
      refine pu_l (va_runV (As := [.long (lN (sp_prod g 30 % (p * q * (p * q))))]) (rest := []) ⟨hx, hb, hml, hown, hts⟩ (c_X_coinIn l dC dI h0 q0 cA p q cx rd cl tt bc g (sp_prod g 30 % (p * q * (p * q))) hk (Nat.lt_of_lt_of_le (Nat.mod_lt _ (by omega)) (by omega))) (cwV 1 hts (al_V (k_X_coinIn) (aw_t113) (aw_t115) (aw_p7) (aw_t1)) rfl rfl rfl (by decide +kernel) ⟨Nat.le_of_ble_eq_true rfl, Nat.le_of_ble_eq_true rfl⟩) (pu_preV (q0 := 0) (ci := 0) hK hP rfl rfl) rfl rfl hl.1 rfl (lv_room (Nat.le_of_ble_eq_true rfl)) d_X_witness_27 ⟨Nat.zero_le _, Nat.zero_le _⟩) hS (fun H locs hkp hS => ?_)
      have hP := hkp _ _ _ hP
      exact pu_lret hx hb hr hS d_X_witness_30 hlocks (by simp [an_witness, hx0, hc15])
    · skip
      rw [← nI_0] at hc15
      rw [nI_eq (a := cl) (b := 0) (by omega) (by omega)] at hc15
      refine lv_ldc2 (v := -6) hx hb hown (hts _ (al_m aw_t168)) d_X_witness_18 ?_
      exact pu_lret hx hb hr hS d_X_witness_21 hlocks (by simp [an_witness, hx0, hc15])
  · skip
    rw [bI_0] at hc4
    have hx0 := bx_f hc4
    refine lv_ldc2 (v := -2) hx hb hown (hts _ (al_m aw_t147)) d_X_witness_7 ?_
    exact pu_lret hx hb hr hS d_X_witness_10 hlocks (by simp [an_witness, hx0])

set_option maxHeartbeats 4000000 in
set_option maxRecDepth 100000 in
theorem c_X_check (l : Launch) (dC : Nat → ClassId) (dI : Nat → Nat → Nat) (h0 q0 : Nat) (cA : ClassId) (p q cx rd cl tt bc : Nat) (g : Nat → Nat) (x y : Int64) (hj : Jv p q cx rd g) (hrd : rd < 2 ^ 31) : Met l y_X_check w_X_check ({ frames := 3, cells := 0, slots := 0, locals := 64 }) (va_Pc [.ref h0, .long x, .long y] (fun U => va_P (dC, dI) classes [(h0, .inr (0, [.int (nI p), .int (nI q), .int (nI (p * q)), .long (lN (p * q * (p * q))), .long (lN (sp_f p q)), .long (lN (sp_inv p q)), .long (lN (sp_cex p q)), .int (nI cx), .int (nI rd), .int (nI cl), .long (lN tt), .int (nI bc), .ref q0])), (q0, .inl (cA, 30, .inr (.inl (fun j => lN (g j)))))] U.heap ∧ va_K (dC, dI) classes [(cA, .long)] U)) (qI (bI (an_check p q cx g x y))) 0 0 (fun _ => False) := by
  refine Met.ofW (cc := b_X_check) (maxL := 5) (ret := some .boolean) (by decide) rfl ?_
  intro pg ev s mi args below meth co s₁ B hml hv
  obtain ⟨rfl, hP, hK⟩ := hv
  have hx := B.exec
  have hb := B.bytes
  have hr := B.returns
  have hts := atoms_spec (ws := w_X_check) B.pre
  have hown : s.vm.findClass R_X = some mi.cls := findClass_of_methodNamed B.named
  have hlocks := B.notSynchronized
  have hS : va_S (fun _ => False) s.heap s.heap [] := va_S.rf
  have hP : va_P (dC, dI) classes [(h0, .inr (0, [.int (nI p), .int (nI q), .int (nI (p * q)), .long (lN (p * q * (p * q))), .long (lN (sp_f p q)), .long (lN (sp_inv p q)), .long (lN (sp_cex p q)), .int (nI cx), .int (nI rd), .int (nI cl), .long (lN tt), .int (nI bc), .ref q0])), (q0, .inl (cA, 30, .inr (.inl (fun j => lN (g j)))))] s.heap := hP
  have hl := lv_entry ([.ref h0, .long x, .long y]) (n := 5) (Nat.le_of_ble_eq_true rfl)
  rw [lg_entry_eq]
  generalize (lg_sl ([.ref h0, .long x, .long y]) ++ List.replicate (5 - (lg_sl ([.ref h0, .long x, .long y])).length) Slot.unset).toArray = ls at hl ⊢
  have hl : lv_has ls 5 [(0, .ref h0), (1, .long x), (3, .long y)] := hl
  have hjn := jv_n hj
  refine lv_aload_n hx hb d_X_check_0 rfl (lv_at hl 0 rfl) ?_
  refine pu_i (va_runV (As := []) (rest := []) ⟨hx, hb, hml, hown, hts⟩ (c_X_hasBox l dC dI h0 q0 cA p q cx rd cl tt bc g (by omega)) (cwV 0 hts (al_V (k_X_hasBox) (aw_t143) (aw_t145) (aw_p9) (aw_t1)) rfl rfl rfl (by decide +kernel) ⟨Nat.le_of_ble_eq_true rfl, Nat.le_of_ble_eq_true rfl⟩) (pu_preV (q0 := 0) (ci := 0) hK hP rfl rfl) rfl rfl hl.1 rfl (lv_room (Nat.le_of_ble_eq_true rfl)) d_X_check_1 ⟨Nat.zero_le _, Nat.zero_le _⟩) hS (fun H locs hkp hS => ?_)
  have hP := hkp _ _ _ hP
  refine lv_if_eq (tgt := 41) hx hb d_X_check_4 (by decide) (fun hc4 => ?_) (fun hc4 => ?_)
  · skip
    rw [bI_0] at hc4
    have hx0 := bx_f hc4
    refine lv_iconst (v := nI 0) hx hb d_X_check_41 (by decide) ?_
    exact pu_zret hx hb hr (by decide) hS d_X_check_42 hlocks ((bI_f (by simp [an_check, hx0])).symm)
  · skip
    rw [bI_0] at hc4
    rw [Bool.not_eq_false] at hc4
    have hx0 := bx_t hc4
    obtain ⟨hk, hx1, hx6, hr2, hrp, hgj⟩ := jv_box hj hx0
    have hbg := ma_big hk
    have hp3 := hk.1.1
    have hq3 := hk.2.1.1
    have hp9 := hk.1.2.1
    have hq9 := hk.2.1.2.1
    have hkf := ma_keyf hk
    refine lv_aload_n hx hb d_X_check_7 rfl (lv_at hl 0 rfl) ?_
    refine lv_lload_n hx hb d_X_check_8 rfl (lv_at hl 1 rfl) ?_
    refine pu_i (va_runV (As := [.long x]) (rest := []) ⟨hx, hb, hml, hown, hts⟩ (c_X_isMessage l dC dI h0 q0 cA p q cx rd cl tt bc g x (by omega)) (cwV 1 hts (al_V (k_X_isMessage) (aw_t80) (aw_t82) (aw_p1) (aw_t1)) rfl rfl rfl (by decide +kernel) ⟨Nat.le_of_ble_eq_true rfl, Nat.le_of_ble_eq_true rfl⟩) (pu_preV (q0 := 0) (ci := 0) hK hP rfl rfl) rfl rfl hl.1 rfl (lv_room (Nat.le_of_ble_eq_true rfl)) d_X_check_9 ⟨Nat.zero_le _, Nat.zero_le _⟩) hS (fun H locs hkp hS => ?_)
    have hP := hkp _ _ _ hP
    refine lv_if_eq (tgt := 41) hx hb d_X_check_12 (by decide) (fun hc12 => ?_) (fun hc12 => ?_)
    · skip
      rw [bI_0] at hc12
      refine lv_iconst (v := nI 0) hx hb d_X_check_41 (by decide) ?_
      exact pu_zret hx hb hr (by decide) hS d_X_check_42 hlocks ((bI_f (by simp [an_check, hx0, hc12])).symm)
    · skip
      rw [bI_0] at hc12
      rw [Bool.not_eq_false] at hc12
      refine lv_aload_n hx hb d_X_check_15 rfl (lv_at hl 0 rfl) ?_
      refine lv_lload_n hx hb d_X_check_16 rfl (lv_at hl 2 rfl) ?_
      refine pu_i (va_runV (As := [.long y]) (rest := []) ⟨hx, hb, hml, hown, hts⟩ (c_X_isCoin l dC dI h0 q0 cA p q cx rd cl tt bc g y hk) (cwV 1 hts (al_V (k_X_isCoin) (aw_t84) (aw_t86) (aw_p2) (aw_t1)) rfl rfl rfl (by decide +kernel) ⟨Nat.le_of_ble_eq_true rfl, Nat.le_of_ble_eq_true rfl⟩) (pu_preV (q0 := 0) (ci := 0) hK hP rfl rfl) rfl rfl hl.1 rfl (lv_room (Nat.le_of_ble_eq_true rfl)) d_X_check_17 ⟨Nat.zero_le _, Nat.zero_le _⟩) hS (fun H locs hkp hS => ?_)
      have hP := hkp _ _ _ hP
      refine lv_if_eq (tgt := 41) hx hb d_X_check_20 (by decide) (fun hc20 => ?_) (fun hc20 => ?_)
      · skip
        rw [bI_0] at hc20
        refine lv_iconst (v := nI 0) hx hb d_X_check_41 (by decide) ?_
        exact pu_zret hx hb hr (by decide) hS d_X_check_42 hlocks ((bI_f (by simp [an_check, hx0, hc12, hc20])).symm)
      · skip
        rw [bI_0] at hc20
        rw [Bool.not_eq_false] at hc20
        obtain ⟨a, ha1, ha2, rfl⟩ := sp_isM_of hc12
        obtain ⟨b, hb1, hb2, hb3, hb4, hb5, rfl⟩ := sp_isC_of hc20
        refine lv_aload_n hx hb d_X_check_23 rfl (lv_at hl 0 rfl) ?_
        refine lv_lload_n hx hb d_X_check_24 rfl (lv_at hl 1 rfl) ?_
        refine lv_lload_n hx hb d_X_check_25 rfl (lv_at hl 2 rfl) ?_
        refine pu_l (va_runV (As := [.long (lN a), .long (lN b)]) (rest := []) ⟨hx, hb, hml, hown, hts⟩ (c_X_sealing l dC dI h0 q0 cA p q cx rd cl tt bc g a b hk ha1 (Nat.lt_of_lt_of_le hb2 (Nat.le_mul_of_pos_left _ (by omega)))) (cwV 2 hts (al_V (k_X_sealing) (aw_t93) (aw_t95) (aw_p4) (aw_t1)) rfl rfl rfl (by decide +kernel) ⟨Nat.le_of_ble_eq_true rfl, Nat.le_of_ble_eq_true rfl⟩) (pu_preV (q0 := 0) (ci := 0) hK hP rfl rfl) rfl rfl hl.1 rfl (lv_room (Nat.le_of_ble_eq_true rfl)) d_X_check_26 ⟨Nat.zero_le _, Nat.zero_le _⟩) hS (fun H locs hkp hS => ?_)
        have hP := hkp _ _ _ hP
        refine lv_aload_n hx hb d_X_check_29 rfl (lv_at hl 0 rfl) ?_
        refine pu_l (va_runV (As := []) (rest := [.long (lN (sp_seal p q a b))]) ⟨hx, hb, hml, hown, hts⟩ (c_X_productOfBallots l dC dI h0 q0 cA p q cx rd cl tt bc g hk (fun j hj0 => (hgj j hj0).1)) (cwV 0 hts (al_V (k_X_productOfBallots) (aw_t181) (aw_t183) (aw_p12) (aw_t1)) rfl rfl rfl (by decide +kernel) ⟨Nat.le_of_ble_eq_true rfl, Nat.le_of_ble_eq_true rfl⟩) (pu_preV (q0 := 0) (ci := 0) hK hP rfl rfl) rfl rfl hl.1 rfl (lv_room (Nat.le_of_ble_eq_true rfl)) d_X_check_30 ⟨Nat.zero_le _, Nat.zero_le _⟩) hS (fun H locs hkp hS => ?_)
        have hP := hkp _ _ _ hP
        have hs1 : sp_seal p q a b < p * q * (p * q) := Nat.mod_lt _ (by omega)
        have hs2 : sp_prod g 30 % (p * q * (p * q)) < p * q * (p * q) := Nat.mod_lt _ (by omega)
        refine W.lcmp hx hb d_X_check_33 ?_
        refine lv_if_ne (tgt := 41) hx hb d_X_check_34 (by decide) (fun hc34 => ?_) (fun hc34 => ?_)
        · skip
          rw [lg_cmp_eq] at hc34
          rw [pk_lEQ (a := sp_seal p q a b) (b := sp_prod g 30 % (p * q * (p * q))) (by omega) (by omega)] at hc34
          refine lv_iconst (v := nI 0) hx hb d_X_check_41 (by decide) ?_
          exact pu_zret hx hb hr (by decide) hS d_X_check_42 hlocks ((bI_f (by simp [an_check, hx0, hc12, hc20, lx_nat ha2, lx_nat hb3, hc34])).symm)
        · skip
          rw [lg_cmp_eq] at hc34
          rw [pk_lEQ (a := sp_seal p q a b) (b := sp_prod g 30 % (p * q * (p * q))) (by omega) (by omega)] at hc34
          refine lv_iconst (v := nI 1) hx hb d_X_check_37 (by decide) ?_
          refine lv_goto (tgt := 42) hx hb d_X_check_38 (by decide) ?_
          exact pu_zret hx hb hr (by decide) hS d_X_check_42 hlocks ((bI_t (by simp [an_check, hx0, hc12, hc20, lx_nat ha2, lx_nat hb3, hc34])).symm)
