set_option maxHeartbeats 4000000 in
set_option maxRecDepth 100000 in
theorem c_X_key (l : Launch) (dC : Nat → ClassId) (dI : Nat → Nat → Nat) (h0 q0 : Nat) (cA : ClassId) (p q cx rd cl tt bc : Nat) (g : Nat → Nat) (x y : Int32) (hj : Jv p q cx rd g) (hne : h0 ≠ q0) : Met l y_X_key w_X_key ({ frames := 2, cells := 0, slots := 0, locals := 42 }) (va_Pc [.ref h0, .int x, .int y] (fun U => va_P (dC, dI) classes [(h0, .inr (0, [.int (nI p), .int (nI q), .int (nI (p * q)), .long (lN (p * q * (p * q))), .long (lN (sp_f p q)), .long (lN (sp_inv p q)), .long (lN (sp_cex p q)), .int (nI cx), .int (nI rd), .int (nI cl), .long (lN tt), .int (nI bc), .ref q0])), (q0, .inl (cA, 30, .inr (.inl (fun j => lN (g j)))))] U.heap ∧ va_K (dC, dI) classes [(cA, .long)] U)) (qmI (an_key x y) (dC, dI) classes [(h0, .inr (0, [.int (nI (sel (sp_isK x y) x.toInt.toNat p)), .int (nI (sel (sp_isK x y) y.toInt.toNat q)), .int (nI ((sel (sp_isK x y) x.toInt.toNat p) * (sel (sp_isK x y) y.toInt.toNat q))), .long (lN ((sel (sp_isK x y) x.toInt.toNat p) * (sel (sp_isK x y) y.toInt.toNat q) * ((sel (sp_isK x y) x.toInt.toNat p) * (sel (sp_isK x y) y.toInt.toNat q)))), .long (lN (sp_f (sel (sp_isK x y) x.toInt.toNat p) (sel (sp_isK x y) y.toInt.toNat q))), .long (lN (sp_inv (sel (sp_isK x y) x.toInt.toNat p) (sel (sp_isK x y) y.toInt.toNat q))), .long (lN (sp_cex (sel (sp_isK x y) x.toInt.toNat p) (sel (sp_isK x y) y.toInt.toNat q))), .int (nI (sel (sp_isK x y) 0 cx)), .int (nI rd), .int (nI cl), .long (lN tt), .int (nI bc), .ref q0])), (q0, .inl (cA, 30, .inr (.inl (fun j => lN (g j)))))] h0 q0) 0 0 (two h0 q0) := by
  refine Met.ofW (cc := b_X_key) (maxL := 3) (ret := some .int) (by decide) rfl ?_
  intro pg ev s mi args below meth co s₁ B hml hv
  obtain ⟨rfl, hP, hK⟩ := hv
  have hx := B.exec
  have hb := B.bytes
  have hr := B.returns
  have hts := atoms_spec (ws := w_X_key) B.pre
  have hown : s.vm.findClass R_X = some mi.cls := findClass_of_methodNamed B.named
  have hlocks := B.notSynchronized
  have hS : va_S (two h0 q0) s.heap s.heap [] := va_S.rf
  have hP : va_P (dC, dI) classes [(h0, .inr (0, [.int (nI p), .int (nI q), .int (nI (p * q)), .long (lN (p * q * (p * q))), .long (lN (sp_f p q)), .long (lN (sp_inv p q)), .long (lN (sp_cex p q)), .int (nI cx), .int (nI rd), .int (nI cl), .long (lN tt), .int (nI bc), .ref q0])), (q0, .inl (cA, 30, .inr (.inl (fun j => lN (g j)))))] s.heap := hP
  obtain ⟨A, hAe⟩ : ∃ A : Nat → Prop, A = two h0 q0 := ⟨_, rfl⟩
  rw [← hAe] at hS
  have hD : va_D A [(h0, .inr (0, [.int (nI p), .int (nI q), .int (nI (p * q)), .long (lN (p * q * (p * q))), .long (lN (sp_f p q)), .long (lN (sp_inv p q)), .long (lN (sp_cex p q)), .int (nI cx), .int (nI rd), .int (nI cl), .long (lN tt), .int (nI bc), .ref q0])), (q0, .inl (cA, 30, .inr (.inl (fun j => lN (g j)))))] := by rw [hAe]; exact mu_D hne
  have hl := lv_entry ([.ref h0, .int x, .int y]) (n := 3) (Nat.le_of_ble_eq_true rfl)
  rw [lg_entry_eq]
  generalize (lg_sl ([.ref h0, .int x, .int y]) ++ List.replicate (3 - (lg_sl ([.ref h0, .int x, .int y])).length) Slot.unset).toArray = ls at hl ⊢
  have hl : lv_has ls 3 [(0, .ref h0), (1, .int x), (2, .int y)] := hl
  have hjn := jv_n hj
  refine lv_iload_n hx hb d_X_key_0 rfl (lv_at hl 1 rfl) ?_
  refine lv_iload_n hx hb d_X_key_1 rfl (lv_at hl 2 rfl) ?_
  refine pu_i (va_runS (As := [.int x, .int y]) (rest := []) ⟨hx, hb, hml, hown, hts⟩ (c_X_isKey l x y) (va_cwS 2 hts (al_S (k_X_isKey) (aw_t58) (aw_t59) (aw_t1)) rfl rfl rfl (by decide +kernel) ⟨Nat.le_of_ble_eq_true rfl, Nat.le_of_ble_eq_true rfl⟩) pu_preS rfl rfl hl.1 rfl (lv_room (Nat.le_of_ble_eq_true rfl)) d_X_key_2 ⟨Nat.zero_le _, Nat.zero_le _⟩) hS (fun H locs hkp hS => ?_)
  have hP := hkp _ _ _ hP
  refine lv_if_ne (tgt := 11) hx hb d_X_key_5 (by decide) (fun hc5 => ?_) (fun hc5 => ?_)
  · skip
    rw [bI_0] at hc5
    rw [Bool.not_eq_false] at hc5
    obtain ⟨a, b, hk, ha2, hb2, rfl, rfl⟩ := sp_isK_of hc5
    have hbg := ma_big hk
    have hp3 := hk.1.1
    have hq3 := hk.2.1.1
    have hp9 := hk.1.2.1
    have hq9 := hk.2.1.2.1
    have hkf := ma_keyf hk
    have hfi : sp_f a b * sp_inv a b < 2 ^ 63 := ms_lt (by omega) (by omega)
    refine lv_aload_n hx hb d_X_key_11 rfl (lv_at hl 0 rfl) ?_
    refine lv_iload_n hx hb d_X_key_12 rfl (lv_at hl 1 rfl) ?_
    refine va_put (D := (dC, dI)) (ci := 0) (v := .int (nI a)) (ty := .int) (C := R_X) (T := F_X) (N := 13) hx hb hts f_X t_X t_X_ok n_X hown hK hP hD hS 0 rfl rfl 0 (by decide) (hts _ (al_m aw_t13)) (fun _ h9 => h9) rfl (by decide +kernel) rfl rfl (Nat.le_of_ble_eq_true rfl) d_X_key_13 (fun H locs hP hD hS => ?_)
    have hP : va_P (dC, dI) classes [(h0, .inr (0, [.int (nI a), .int (nI q), .int (nI (p * q)), .long (lN (p * q * (p * q))), .long (lN (sp_f p q)), .long (lN (sp_inv p q)), .long (lN (sp_cex p q)), .int (nI cx), .int (nI rd), .int (nI cl), .long (lN tt), .int (nI bc), .ref q0])), (q0, .inl (cA, 30, .inr (.inl (fun j => lN (g j)))))] H := hP
    have hD : va_D A [(h0, .inr (0, [.int (nI a), .int (nI q), .int (nI (p * q)), .long (lN (p * q * (p * q))), .long (lN (sp_f p q)), .long (lN (sp_inv p q)), .long (lN (sp_cex p q)), .int (nI cx), .int (nI rd), .int (nI cl), .long (lN tt), .int (nI bc), .ref q0])), (q0, .inl (cA, 30, .inr (.inl (fun j => lN (g j)))))] := hD
    refine lv_aload_n hx hb d_X_key_16 rfl (lv_at hl 0 rfl) ?_
    refine lv_iload_n hx hb d_X_key_17 rfl (lv_at hl 2 rfl) ?_
    refine va_put (D := (dC, dI)) (ci := 0) (v := .int (nI b)) (ty := .int) (C := R_X) (T := F_X) (N := 13) hx hb hts f_X t_X t_X_ok n_X hown hK hP hD hS 0 rfl rfl 1 (by decide) (hts _ (al_m aw_t14)) (fun _ h9 => h9) rfl (by decide +kernel) rfl rfl (Nat.le_of_ble_eq_true rfl) d_X_key_18 (fun H locs hP hD hS => ?_)
    have hP : va_P (dC, dI) classes [(h0, .inr (0, [.int (nI a), .int (nI b), .int (nI (p * q)), .long (lN (p * q * (p * q))), .long (lN (sp_f p q)), .long (lN (sp_inv p q)), .long (lN (sp_cex p q)), .int (nI cx), .int (nI rd), .int (nI cl), .long (lN tt), .int (nI bc), .ref q0])), (q0, .inl (cA, 30, .inr (.inl (fun j => lN (g j)))))] H := hP
    have hD : va_D A [(h0, .inr (0, [.int (nI a), .int (nI b), .int (nI (p * q)), .long (lN (p * q * (p * q))), .long (lN (sp_f p q)), .long (lN (sp_inv p q)), .long (lN (sp_cex p q)), .int (nI cx), .int (nI rd), .int (nI cl), .long (lN tt), .int (nI bc), .ref q0])), (q0, .inl (cA, 30, .inr (.inl (fun j => lN (g j)))))] := hD
    refine lv_aload_n hx hb d_X_key_21 rfl (lv_at hl 0 rfl) ?_
    refine lv_iload_n hx hb d_X_key_22 rfl (lv_at hl 1 rfl) ?_
    refine lv_iload_n hx hb d_X_key_23 rfl (lv_at hl 2 rfl) ?_
    refine lv_imul hx hb d_X_key_24 ?_
    refine wk_i (y := nI (a * b)) (pk_mul a b) ?_
    refine va_put (D := (dC, dI)) (ci := 0) (v := .int (nI (a * b))) (ty := .int) (C := R_X) (T := F_X) (N := 13) hx hb hts f_X t_X t_X_ok n_X hown hK hP hD hS 0 rfl rfl 2 (by decide) (hts _ (al_m aw_t15)) (fun _ h9 => h9) rfl (by decide +kernel) rfl rfl (Nat.le_of_ble_eq_true rfl) d_X_key_25 (fun H locs hP hD hS => ?_)
    have hP : va_P (dC, dI) classes [(h0, .inr (0, [.int (nI a), .int (nI b), .int (nI (a * b)), .long (lN (p * q * (p * q))), .long (lN (sp_f p q)), .long (lN (sp_inv p q)), .long (lN (sp_cex p q)), .int (nI cx), .int (nI rd), .int (nI cl), .long (lN tt), .int (nI bc), .ref q0])), (q0, .inl (cA, 30, .inr (.inl (fun j => lN (g j)))))] H := hP
    have hD : va_D A [(h0, .inr (0, [.int (nI a), .int (nI b), .int (nI (a * b)), .long (lN (p * q * (p * q))), .long (lN (sp_f p q)), .long (lN (sp_inv p q)), .long (lN (sp_cex p q)), .int (nI cx), .int (nI rd), .int (nI cl), .long (lN tt), .int (nI bc), .ref q0])), (q0, .inl (cA, 30, .inr (.inl (fun j => lN (g j)))))] := hD
    refine lv_aload_n hx hb d_X_key_28 rfl (lv_at hl 0 rfl) ?_
    refine lv_aload_n hx hb d_X_key_29 rfl (lv_at hl 0 rfl) ?_
    refine va_get (D := (dC, dI)) (ci := 0) (v := .int (nI (a * b))) (C := R_X) (T := F_X) (N := 13) hx hb hts f_X hown hK hP 0 rfl rfl 2 (by decide) (hts _ (al_m aw_t15)) (fun _ h9 => h9) rfl d_X_key_30 ?_
    refine lv_i2l (v := lN (a * b)) hx hb d_X_key_33 (nI_l (by omega)) ?_
    refine lv_aload_n hx hb d_X_key_34 rfl (lv_at hl 0 rfl) ?_
    refine va_get (D := (dC, dI)) (ci := 0) (v := .int (nI (a * b))) (C := R_X) (T := F_X) (N := 13) hx hb hts f_X hown hK hP 0 rfl rfl 2 (by decide) (hts _ (al_m aw_t15)) (fun _ h9 => h9) rfl d_X_key_35 ?_
    refine lv_i2l (v := lN (a * b)) hx hb d_X_key_38 (nI_l (by omega)) ?_
    refine lv_lmul hx hb d_X_key_39 ?_
    refine wk_l (y := lN ((a * b) * (a * b))) (lN_mul (a * b) (a * b)) ?_
    refine va_put (D := (dC, dI)) (ci := 0) (v := .long (lN ((a * b) * (a * b)))) (ty := .long) (C := R_X) (T := F_X) (N := 13) hx hb hts f_X t_X t_X_ok n_X hown hK hP hD hS 0 rfl rfl 3 (by decide) (hts _ (al_m aw_t16)) (fun _ h9 => h9) rfl (by decide +kernel) rfl rfl (Nat.le_of_ble_eq_true rfl) d_X_key_40 (fun H locs hP hD hS => ?_)
    have hP : va_P (dC, dI) classes [(h0, .inr (0, [.int (nI a), .int (nI b), .int (nI (a * b)), .long (lN ((a * b) * (a * b))), .long (lN (sp_f p q)), .long (lN (sp_inv p q)), .long (lN (sp_cex p q)), .int (nI cx), .int (nI rd), .int (nI cl), .long (lN tt), .int (nI bc), .ref q0])), (q0, .inl (cA, 30, .inr (.inl (fun j => lN (g j)))))] H := hP
    have hD : va_D A [(h0, .inr (0, [.int (nI a), .int (nI b), .int (nI (a * b)), .long (lN ((a * b) * (a * b))), .long (lN (sp_f p q)), .long (lN (sp_inv p q)), .long (lN (sp_cex p q)), .int (nI cx), .int (nI rd), .int (nI cl), .long (lN tt), .int (nI bc), .ref q0])), (q0, .inl (cA, 30, .inr (.inl (fun j => lN (g j)))))] := hD
    refine lv_aload_n hx hb d_X_key_43 rfl (lv_at hl 0 rfl) ?_
    refine lv_iload_n hx hb d_X_key_44 rfl (lv_at hl 1 rfl) ?_
    refine lv_iconst (v := nI 1) hx hb d_X_key_45 (by decide) ?_
    refine lv_isub hx hb d_X_key_46 ?_
    refine wk_i (y := nI (a - 1)) (pk_sub (by omega)) ?_
    refine lv_i2l (v := lN (a - 1)) hx hb d_X_key_47 (nI_l (by omega)) ?_
    refine lv_iload_n hx hb d_X_key_48 rfl (lv_at hl 2 rfl) ?_
    refine lv_iconst (v := nI 1) hx hb d_X_key_49 (by decide) ?_
    refine lv_isub hx hb d_X_key_50 ?_
    refine wk_i (y := nI (b - 1)) (pk_sub (by omega)) ?_
    refine lv_i2l (v := lN (b - 1)) hx hb d_X_key_51 (nI_l (by omega)) ?_
    refine lv_lmul hx hb d_X_key_52 ?_
    refine wk_l (y := lN (sp_f a b)) (lN_mul _ _) ?_
    refine va_put (D := (dC, dI)) (ci := 0) (v := .long (lN (sp_f a b))) (ty := .long) (C := R_X) (T := F_X) (N := 13) hx hb hts f_X t_X t_X_ok n_X hown hK hP hD hS 0 rfl rfl 4 (by decide) (hts _ (al_m aw_t17)) (fun _ h9 => h9) rfl (by decide +kernel) rfl rfl (Nat.le_of_ble_eq_true rfl) d_X_key_53 (fun H locs hP hD hS => ?_)
    have hP : va_P (dC, dI) classes [(h0, .inr (0, [.int (nI a), .int (nI b), .int (nI (a * b)), .long (lN ((a * b) * (a * b))), .long (lN (sp_f a b)), .long (lN (sp_inv p q)), .long (lN (sp_cex p q)), .int (nI cx), .int (nI rd), .int (nI cl), .long (lN tt), .int (nI bc), .ref q0])), (q0, .inl (cA, 30, .inr (.inl (fun j => lN (g j)))))] H := hP
    have hD : va_D A [(h0, .inr (0, [.int (nI a), .int (nI b), .int (nI (a * b)), .long (lN ((a * b) * (a * b))), .long (lN (sp_f a b)), .long (lN (sp_inv p q)), .long (lN (sp_cex p q)), .int (nI cx), .int (nI rd), .int (nI cl), .long (lN tt), .int (nI bc), .ref q0])), (q0, .inl (cA, 30, .inr (.inl (fun j => lN (g j)))))] := hD
    refine lv_aload_n hx hb d_X_key_56 rfl (lv_at hl 0 rfl) ?_
    refine lv_aload_n hx hb d_X_key_57 rfl (lv_at hl 0 rfl) ?_
    refine va_get (D := (dC, dI)) (ci := 0) (v := .long (lN (sp_f a b))) (C := R_X) (T := F_X) (N := 13) hx hb hts f_X hown hK hP 0 rfl rfl 4 (by decide) (hts _ (al_m aw_t17)) (fun _ h9 => h9) rfl d_X_key_58 ?_
    refine lv_aload_n hx hb d_X_key_61 rfl (lv_at hl 0 rfl) ?_
    refine va_get (D := (dC, dI)) (ci := 0) (v := .long (lN (sp_f a b))) (C := R_X) (T := F_X) (N := 13) hx hb hts f_X hown hK hP 0 rfl rfl 4 (by decide) (hts _ (al_m aw_t17)) (fun _ h9 => h9) rfl d_X_key_62 ?_
    refine lv_lconst (v := lN 1) hx hb d_X_key_65 rfl ?_
    refine lv_lsub hx hb d_X_key_66 ?_
    refine wk_l (y := lN ((sp_f a b) - 1)) (lN_sub (by omega)) ?_
    refine lv_aload_n hx hb d_X_key_67 rfl (lv_at hl 0 rfl) ?_
    refine va_get (D := (dC, dI)) (ci := 0) (v := .int (nI (a * b))) (C := R_X) (T := F_X) (N := 13) hx hb hts f_X hown hK hP 0 rfl rfl 2 (by decide) (hts _ (al_m aw_t15)) (fun _ h9 => h9) rfl d_X_key_68 ?_
    refine lv_i2l (v := lN (a * b)) hx hb d_X_key_71 (nI_l (by omega)) ?_
    refine pu_l (va_runS (As := [.long (lN (sp_f a b)), .long (lN ((sp_f a b) - 1)), .long (lN (a * b))]) (rest := [.ref h0]) ⟨hx, hb, hml, hown, hts⟩ (c_X_raised l (sp_f a b) (sp_f a b - 1) (a * b) (by omega) (by omega) (by omega) (by omega)) (va_cwS 3 hts (al_S (k_X_raised) (aw_t64) (aw_t65) (aw_t1)) rfl rfl rfl (by decide +kernel) ⟨Nat.le_of_ble_eq_true rfl, Nat.le_of_ble_eq_true rfl⟩) pu_preS rfl rfl hl.1 rfl (lv_room (Nat.le_of_ble_eq_true rfl)) d_X_key_72 ⟨Nat.zero_le _, Nat.zero_le _⟩) hS (fun H locs hkp hS => ?_)
    have hP := hkp _ _ _ hP
    refine wk_l (y := lN (sp_inv a b)) (congrArg lN (si_of hk)) ?_
    refine va_put (D := (dC, dI)) (ci := 0) (v := .long (lN (sp_inv a b))) (ty := .long) (C := R_X) (T := F_X) (N := 13) hx hb hts f_X t_X t_X_ok n_X hown hK hP hD hS 0 rfl rfl 5 (by decide) (hts _ (al_m aw_t18)) (fun _ h9 => h9) rfl (by decide +kernel) rfl rfl (Nat.le_of_ble_eq_true rfl) d_X_key_75 (fun H locs hP hD hS => ?_)
    have hP : va_P (dC, dI) classes [(h0, .inr (0, [.int (nI a), .int (nI b), .int (nI (a * b)), .long (lN ((a * b) * (a * b))), .long (lN (sp_f a b)), .long (lN (sp_inv a b)), .long (lN (sp_cex p q)), .int (nI cx), .int (nI rd), .int (nI cl), .long (lN tt), .int (nI bc), .ref q0])), (q0, .inl (cA, 30, .inr (.inl (fun j => lN (g j)))))] H := hP
    have hD : va_D A [(h0, .inr (0, [.int (nI a), .int (nI b), .int (nI (a * b)), .long (lN ((a * b) * (a * b))), .long (lN (sp_f a b)), .long (lN (sp_inv a b)), .long (lN (sp_cex p q)), .int (nI cx), .int (nI rd), .int (nI cl), .long (lN tt), .int (nI bc), .ref q0])), (q0, .inl (cA, 30, .inr (.inl (fun j => lN (g j)))))] := hD
    refine lv_aload_n hx hb d_X_key_78 rfl (lv_at hl 0 rfl) ?_
    refine lv_aload_n hx hb d_X_key_79 rfl (lv_at hl 0 rfl) ?_
    refine va_get (D := (dC, dI)) (ci := 0) (v := .long (lN (sp_f a b))) (C := R_X) (T := F_X) (N := 13) hx hb hts f_X hown hK hP 0 rfl rfl 4 (by decide) (hts _ (al_m aw_t17)) (fun _ h9 => h9) rfl d_X_key_80 ?_
    refine lv_aload_n hx hb d_X_key_83 rfl (lv_at hl 0 rfl) ?_
    refine va_get (D := (dC, dI)) (ci := 0) (v := .long (lN (sp_f a b))) (C := R_X) (T := F_X) (N := 13) hx hb hts f_X hown hK hP 0 rfl rfl 4 (by decide) (hts _ (al_m aw_t17)) (fun _ h9 => h9) rfl d_X_key_84 ?_
    refine lv_aload_n hx hb d_X_key_87 rfl (lv_at hl 0 rfl) ?_
    refine va_get (D := (dC, dI)) (ci := 0) (v := .long (lN (sp_inv a b))) (C := R_X) (T := F_X) (N := 13) hx hb hts f_X hown hK hP 0 rfl rfl 5 (by decide) (hts _ (al_m aw_t18)) (fun _ h9 => h9) rfl d_X_key_88 ?_
    refine lv_lmul hx hb d_X_key_91 ?_
    refine wk_l (y := lN ((sp_f a b) * (sp_inv a b))) (lN_mul (sp_f a b) (sp_inv a b)) ?_
    refine lv_lconst (v := lN 1) hx hb d_X_key_92 rfl ?_
    refine lv_lsub hx hb d_X_key_93 ?_
    refine wk_l (y := lN (((sp_f a b) * (sp_inv a b)) - 1)) (lN_sub (by omega)) ?_
    refine lv_aload_n hx hb d_X_key_94 rfl (lv_at hl 0 rfl) ?_
    refine va_get (D := (dC, dI)) (ci := 0) (v := .int (nI (a * b))) (C := R_X) (T := F_X) (N := 13) hx hb hts f_X hown hK hP 0 rfl rfl 2 (by decide) (hts _ (al_m aw_t15)) (fun _ h9 => h9) rfl d_X_key_95 ?_
    refine lv_i2l (v := lN (a * b)) hx hb d_X_key_98 (nI_l (by omega)) ?_
    refine lv_ldiv hx hb d_X_key_99 (lN_ne0 (by omega) (by omega)) ?_
    refine wk_l (y := lN ((((sp_f a b) * (sp_inv a b)) - 1) / (a * b))) (pk_lDiv (by omega) (by omega) (by omega)) ?_
    have hm99 := Nat.div_le_self (((sp_f a b) * (sp_inv a b)) - 1) (a * b)
    refine lv_lsub hx hb d_X_key_100 ?_
    refine wk_l (y := lN (sp_cex a b)) (lN_sub hkf.2.2.2.2.2.1) ?_
    refine va_put (D := (dC, dI)) (ci := 0) (v := .long (lN (sp_cex a b))) (ty := .long) (C := R_X) (T := F_X) (N := 13) hx hb hts f_X t_X t_X_ok n_X hown hK hP hD hS 0 rfl rfl 6 (by decide) (hts _ (al_m aw_t19)) (fun _ h9 => h9) rfl (by decide +kernel) rfl rfl (Nat.le_of_ble_eq_true rfl) d_X_key_101 (fun H locs hP hD hS => ?_)
    have hP : va_P (dC, dI) classes [(h0, .inr (0, [.int (nI a), .int (nI b), .int (nI (a * b)), .long (lN ((a * b) * (a * b))), .long (lN (sp_f a b)), .long (lN (sp_inv a b)), .long (lN (sp_cex a b)), .int (nI cx), .int (nI rd), .int (nI cl), .long (lN tt), .int (nI bc), .ref q0])), (q0, .inl (cA, 30, .inr (.inl (fun j => lN (g j)))))] H := hP
    have hD : va_D A [(h0, .inr (0, [.int (nI a), .int (nI b), .int (nI (a * b)), .long (lN ((a * b) * (a * b))), .long (lN (sp_f a b)), .long (lN (sp_inv a b)), .long (lN (sp_cex a b)), .int (nI cx), .int (nI rd), .int (nI cl), .long (lN tt), .int (nI bc), .ref q0])), (q0, .inl (cA, 30, .inr (.inl (fun j => lN (g j)))))] := hD
    refine lv_aload_n hx hb d_X_key_104 rfl (lv_at hl 0 rfl) ?_
    refine lv_iconst (v := nI 0) hx hb d_X_key_105 (by decide) ?_
    refine va_put (D := (dC, dI)) (ci := 0) (v := .int (nI 0)) (ty := .int) (C := R_X) (T := F_X) (N := 13) hx hb hts f_X t_X t_X_ok n_X hown hK hP hD hS 0 rfl rfl 7 (by decide) (hts _ (al_m aw_t20)) (fun _ h9 => h9) rfl (by decide +kernel) rfl rfl (Nat.le_of_ble_eq_true rfl) d_X_key_106 (fun H locs hP hD hS => ?_)
    have hP : va_P (dC, dI) classes [(h0, .inr (0, [.int (nI a), .int (nI b), .int (nI (a * b)), .long (lN ((a * b) * (a * b))), .long (lN (sp_f a b)), .long (lN (sp_inv a b)), .long (lN (sp_cex a b)), .int (nI 0), .int (nI rd), .int (nI cl), .long (lN tt), .int (nI bc), .ref q0])), (q0, .inl (cA, 30, .inr (.inl (fun j => lN (g j)))))] H := hP
    have hD : va_D A [(h0, .inr (0, [.int (nI a), .int (nI b), .int (nI (a * b)), .long (lN ((a * b) * (a * b))), .long (lN (sp_f a b)), .long (lN (sp_inv a b)), .long (lN (sp_cex a b)), .int (nI 0), .int (nI rd), .int (nI cl), .long (lN tt), .int (nI bc), .ref q0])), (q0, .inl (cA, 30, .inr (.inl (fun j => lN (g j)))))] := hD
    refine lv_aload_n hx hb d_X_key_109 rfl (lv_at hl 0 rfl) ?_
    refine va_get (D := (dC, dI)) (ci := 0) (v := .int (nI (a * b))) (C := R_X) (T := F_X) (N := 13) hx hb hts f_X hown hK hP 0 rfl rfl 2 (by decide) (hts _ (al_m aw_t15)) (fun _ h9 => h9) rfl d_X_key_110 ?_
    rw [hAe] at hS
    exact mu_iret hx hb hr (by simp only [hc5, sel_t, ix_nat ha2, ix_nat hb2]; exact hP) hS d_X_key_113 hlocks (by simp [an_key, hc5, ix_nat ha2, ix_nat hb2])
  · skip
    rw [bI_0] at hc5
    refine lv_bipush (v := -4) hx hb d_X_key_8 (by decide) ?_
    rw [hAe] at hS
    exact mu_iret hx hb hr (by simp only [hc5, sel_f]; exact hP) hS d_X_key_10 hlocks (by simp [an_key, hc5])

set_option maxHeartbeats 4000000 in
set_option maxRecDepth 100000 in
theorem c_X_close (l : Launch) (dC : Nat → ClassId) (dI : Nat → Nat → Nat) (h0 q0 : Nat) (cA : ClassId) (p q cx rd cl tt bc : Nat) (g : Nat → Nat) (hj : Jv p q cx rd g) (hcl : cl ≤ 1) (hne : h0 ≠ q0) : Met l y_X_close w_X_close ({ frames := 2, cells := 0, slots := 0, locals := 54 }) (va_Pc [.ref h0] (fun U => va_P (dC, dI) classes [(h0, .inr (0, [.int (nI p), .int (nI q), .int (nI (p * q)), .long (lN (p * q * (p * q))), .long (lN (sp_f p q)), .long (lN (sp_inv p q)), .long (lN (sp_cex p q)), .int (nI cx), .int (nI rd), .int (nI cl), .long (lN tt), .int (nI bc), .ref q0])), (q0, .inl (cA, 30, .inr (.inl (fun j => lN (g j)))))] U.heap ∧ va_K (dC, dI) classes [(cA, .long)] U)) (qmL (an_close p q cx cl g) (dC, dI) classes [(h0, .inr (0, [.int (nI p), .int (nI q), .int (nI (p * q)), .long (lN (p * q * (p * q))), .long (lN (sp_f p q)), .long (lN (sp_inv p q)), .long (lN (sp_cex p q)), .int (nI cx), .int (nI rd), .int (nI (sel (decide (cx = 0)) cl 1)), .long (lN (sel (decide (cx = 0 ∨ cl = 1)) tt (sp_msg p q (sp_prod g 30 % (p * q * (p * q)))))), .int (nI bc), .ref q0])), (q0, .inl (cA, 30, .inr (.inl (fun j => lN (g j)))))] h0 q0) 0 0 (two h0 q0) := by
  refine Met.ofW (cc := b_X_close) (maxL := 1) (ret := some .long) (by decide) rfl ?_
  intro pg ev s mi args below meth co s₁ B hml hv
  obtain ⟨rfl, hP, hK⟩ := hv
  have hx := B.exec
  have hb := B.bytes
  have hr := B.returns
  have hts := atoms_spec (ws := w_X_close) B.pre
  have hown : s.vm.findClass R_X = some mi.cls := findClass_of_methodNamed B.named
  have hlocks := B.notSynchronized
  have hS : va_S (two h0 q0) s.heap s.heap [] := va_S.rf
  have hP : va_P (dC, dI) classes [(h0, .inr (0, [.int (nI p), .int (nI q), .int (nI (p * q)), .long (lN (p * q * (p * q))), .long (lN (sp_f p q)), .long (lN (sp_inv p q)), .long (lN (sp_cex p q)), .int (nI cx), .int (nI rd), .int (nI cl), .long (lN tt), .int (nI bc), .ref q0])), (q0, .inl (cA, 30, .inr (.inl (fun j => lN (g j)))))] s.heap := hP
  obtain ⟨A, hAe⟩ : ∃ A : Nat → Prop, A = two h0 q0 := ⟨_, rfl⟩
  rw [← hAe] at hS
  have hD : va_D A [(h0, .inr (0, [.int (nI p), .int (nI q), .int (nI (p * q)), .long (lN (p * q * (p * q))), .long (lN (sp_f p q)), .long (lN (sp_inv p q)), .long (lN (sp_cex p q)), .int (nI cx), .int (nI rd), .int (nI cl), .long (lN tt), .int (nI bc), .ref q0])), (q0, .inl (cA, 30, .inr (.inl (fun j => lN (g j)))))] := by rw [hAe]; exact mu_D hne
  have hl := lv_entry ([.ref h0]) (n := 1) (Nat.le_of_ble_eq_true rfl)
  rw [lg_entry_eq]
  generalize (lg_sl ([.ref h0]) ++ List.replicate (1 - (lg_sl ([.ref h0])).length) Slot.unset).toArray = ls at hl ⊢
  have hl : lv_has ls 1 [(0, .ref h0)] := hl
  have hjn := jv_n hj
  refine lv_aload_n hx hb d_X_close_0 rfl (lv_at hl 0 rfl) ?_
  refine pu_i (va_runV (As := []) (rest := []) ⟨hx, hb, hml, hown, hts⟩ (c_X_hasBox l dC dI h0 q0 cA p q cx rd cl tt bc g (by omega)) (cwV 0 hts (al_V (k_X_hasBox) (aw_t143) (aw_t145) (aw_p9) (aw_t1)) rfl rfl rfl (by decide +kernel) ⟨Nat.le_of_ble_eq_true rfl, Nat.le_of_ble_eq_true rfl⟩) (pu_preV (q0 := 0) (ci := 0) hK hP rfl rfl) rfl rfl hl.1 rfl (lv_room (Nat.le_of_ble_eq_true rfl)) d_X_close_1 ⟨Nat.zero_le _, Nat.zero_le _⟩) hS (fun H locs hkp hS => ?_)
  have hP := hkp _ _ _ hP
  refine lv_if_ne (tgt := 11) hx hb d_X_close_4 (by decide) (fun hc4 => ?_) (fun hc4 => ?_)
  · skip
    rw [bI_0] at hc4
    rw [Bool.not_eq_false] at hc4
    have hx0 := bx_t hc4
    obtain ⟨hk, hx1, hx6, hr2, hrp, hgj⟩ := jv_box hj hx0
    have hbg := ma_big hk
    have hp3 := hk.1.1
    have hq3 := hk.2.1.1
    have hp9 := hk.1.2.1
    have hq9 := hk.2.1.2.1
    have hkf := ma_keyf hk
    refine lv_aload_n hx hb d_X_close_11 rfl (lv_at hl 0 rfl) ?_
    refine va_get (D := (dC, dI)) (ci := 0) (v := .int (nI cl)) (C := R_X) (T := F_X) (N := 13) hx hb hts f_X hown hK hP 0 rfl rfl 9 (by decide) (hts _ (al_m aw_t22)) (fun _ h9 => h9) rfl d_X_close_12 ?_
    refine lv_if_eq (tgt := 22) hx hb d_X_close_15 (by decide) (fun hc15 => ?_) (fun hc15 => ?_)
    · skip
      rw [← nI_0] at hc15
      rw [nI_eq (a := cl) (b := 0) (by omega) (by omega)] at hc15
      have hc0 : cl = 0 := by omega
      refine lv_aload_n hx hb d_X_close_22 rfl (lv_at hl 0 rfl) ?_
      refine lv_iconst (v := nI 1) hx hb d_X_close_23 (by decide) ?_
      refine va_put (D := (dC, dI)) (ci := 0) (v := .int (nI 1)) (ty := .boolean) (C := R_X) (T := F_X) (N := 13) hx hb hts f_X t_X t_X_ok n_X hown hK hP hD hS 0 rfl rfl 9 (by decide) (hts _ (al_m aw_t22)) (fun _ h9 => h9) rfl (by decide +kernel) rfl rfl (Nat.le_of_ble_eq_true rfl) d_X_close_24 (fun H locs hP hD hS => ?_)
      have hP : va_P (dC, dI) classes [(h0, .inr (0, [.int (nI p), .int (nI q), .int (nI (p * q)), .long (lN (p * q * (p * q))), .long (lN (sp_f p q)), .long (lN (sp_inv p q)), .long (lN (sp_cex p q)), .int (nI cx), .int (nI rd), .int (nI 1), .long (lN tt), .int (nI bc), .ref q0])), (q0, .inl (cA, 30, .inr (.inl (fun j => lN (g j)))))] H := hP
      have hD : va_D A [(h0, .inr (0, [.int (nI p), .int (nI q), .int (nI (p * q)), .long (lN (p * q * (p * q))), .long (lN (sp_f p q)), .long (lN (sp_inv p q)), .long (lN (sp_cex p q)), .int (nI cx), .int (nI rd), .int (nI 1), .long (lN tt), .int (nI bc), .ref q0])), (q0, .inl (cA, 30, .inr (.inl (fun j => lN (g j)))))] := hD
      refine lv_aload_n hx hb d_X_close_27 rfl (lv_at hl 0 rfl) ?_
      refine lv_aload_n hx hb d_X_close_28 rfl (lv_at hl 0 rfl) ?_
      refine lv_aload_n hx hb d_X_close_29 rfl (lv_at hl 0 rfl) ?_
      refine pu_l (va_runV (As := []) (rest := [.ref h0, .ref h0]) ⟨hx, hb, hml, hown, hts⟩ (c_X_productOfBallots l dC dI h0 q0 cA p q cx rd 1 tt bc g hk (fun j hj0 => (hgj j hj0).1)) (cwV 0 hts (al_V (k_X_productOfBallots) (aw_t181) (aw_t183) (aw_p12) (aw_t1)) rfl rfl rfl (by decide +kernel) ⟨Nat.le_of_ble_eq_true rfl, Nat.le_of_ble_eq_true rfl⟩) (pu_preV (q0 := 0) (ci := 0) hK hP rfl rfl) rfl rfl hl.1 rfl (lv_room (Nat.le_of_ble_eq_true rfl)) d_X_close_30 ⟨Nat.zero_le _, Nat.zero_le _⟩) hS (fun H locs hkp hS => ?_)
      have hP := hkp _ _ _ hP
      obtain ⟨hs1, hs2, hs3⟩ := fa_seal hk (fun j hj0 => (hgj j hj0).2)
      refine pu_l (va_runV (As := [.long (lN (sp_prod g 30 % (p * q * (p * q))))]) (rest := [.ref h0]) ⟨hx, hb, hml, hown, hts⟩ (c_X_messageIn l dC dI h0 q0 cA p q cx rd 1 tt bc g (sp_prod g 30 % (p * q * (p * q))) hk hs3 hs1 hs2) (cwV 1 hts (al_V (k_X_messageIn) (aw_t105) (aw_t107) (aw_p6) (aw_t1)) rfl rfl rfl (by decide +kernel) ⟨Nat.le_of_ble_eq_true rfl, Nat.le_of_ble_eq_true rfl⟩) (pu_preV (q0 := 0) (ci := 0) hK hP rfl rfl) rfl rfl hl.1 rfl (lv_room (Nat.le_of_ble_eq_true rfl)) d_X_close_33 ⟨Nat.zero_le _, Nat.zero_le _⟩) hS (fun H locs hkp hS => ?_)
      have hP := hkp _ _ _ hP
      refine va_put (D := (dC, dI)) (ci := 0) (v := .long (lN (sp_msg p q (sp_prod g 30 % (p * q * (p * q)))))) (ty := .long) (C := R_X) (T := F_X) (N := 13) hx hb hts f_X t_X t_X_ok n_X hown hK hP hD hS 0 rfl rfl 10 (by decide) (hts _ (al_m aw_t23)) (fun _ h9 => h9) rfl (by decide +kernel) rfl rfl (Nat.le_of_ble_eq_true rfl) d_X_close_36 (fun H locs hP hD hS => ?_)
      have hP : va_P (dC, dI) classes [(h0, .inr (0, [.int (nI p), .int (nI q), .int (nI (p * q)), .long (lN (p * q * (p * q))), .long (lN (sp_f p q)), .long (lN (sp_inv p q)), .long (lN (sp_cex p q)), .int (nI cx), .int (nI rd), .int (nI 1), .long (lN (sp_msg p q (sp_prod g 30 % (p * q * (p * q))))), .int (nI bc), .ref q0])), (q0, .inl (cA, 30, .inr (.inl (fun j => lN (g j)))))] H := hP
      have hD : va_D A [(h0, .inr (0, [.int (nI p), .int (nI q), .int (nI (p * q)), .long (lN (p * q * (p * q))), .long (lN (sp_f p q)), .long (lN (sp_inv p q)), .long (lN (sp_cex p q)), .int (nI cx), .int (nI rd), .int (nI 1), .long (lN (sp_msg p q (sp_prod g 30 % (p * q * (p * q))))), .int (nI bc), .ref q0])), (q0, .inl (cA, 30, .inr (.inl (fun j => lN (g j)))))] := hD
      refine lv_aload_n hx hb d_X_close_39 rfl (lv_at hl 0 rfl) ?_
      refine va_get (D := (dC, dI)) (ci := 0) (v := .long (lN (sp_msg p q (sp_prod g 30 % (p * q * (p * q)))))) (C := R_X) (T := F_X) (N := 13) hx hb hts f_X hown hK hP 0 rfl rfl 10 (by decide) (hts _ (al_m aw_t23)) (fun _ h9 => h9) rfl d_X_close_40 ?_
      rw [hAe] at hS
      exact mu_lret hx hb hr (by simp only [decide_eq_false hx0, sel_f, decide_eq_false (show ¬ (cx = 0 ∨ cl = 1) from fun z => z.elim hx0 (by omega))]; exact hP) hS d_X_close_43 hlocks (by simp [an_close, hx0, hc0])
    · skip
      rw [← nI_0] at hc15
      rw [nI_eq (a := cl) (b := 0) (by omega) (by omega)] at hc15
      have hc1 : cl = 1 := by omega
      refine lv_ldc2 (v := -3) hx hb hown (hts _ (al_m aw_t167)) d_X_close_18 ?_
      rw [hAe] at hS
      exact mu_lret hx hb hr (by simp only [decide_eq_false hx0, sel_f, decide_eq_true (show cx = 0 ∨ cl = 1 from Or.inr hc1), sel_t]; rw [hc1] at hP; exact hP) hS d_X_close_21 hlocks (by simp [an_close, hx0, hc1])
  · skip
    rw [bI_0] at hc4
    have hx0 := bx_f hc4
    refine lv_ldc2 (v := -2) hx hb hown (hts _ (al_m aw_t147)) d_X_close_7 ?_
    rw [hAe] at hS
    exact mu_lret hx hb hr (by simp only [decide_eq_true hx0, decide_eq_true (show cx = 0 ∨ cl = 1 from Or.inl hx0), sel_t]; exact hP) hS d_X_close_10 hlocks (by simp [an_close, hx0])

set_option maxHeartbeats 4000000 in
set_option maxRecDepth 100000 in
theorem c_X_withdraw (l : Launch) (dC : Nat → ClassId) (dI : Nat → Nat → Nat) (h0 q0 : Nat) (cA : ClassId) (p q cx rd cl tt bc : Nat) (g : Nat → Nat) (x : Int32) (hj : Jv p q cx rd g) (hcl : cl ≤ 1) (hbc : bc = sp_cnt g 30) (hne : h0 ≠ q0) : Met l y_X_withdraw w_X_withdraw ({ frames := 1, cells := 0, slots := 0, locals := 20 }) (va_Pc [.ref h0, .int x] (fun U => va_P (dC, dI) classes [(h0, .inr (0, [.int (nI p), .int (nI q), .int (nI (p * q)), .long (lN (p * q * (p * q))), .long (lN (sp_f p q)), .long (lN (sp_inv p q)), .long (lN (sp_cex p q)), .int (nI cx), .int (nI rd), .int (nI cl), .long (lN tt), .int (nI bc), .ref q0])), (q0, .inl (cA, 30, .inr (.inl (fun j => lN (g j)))))] U.heap ∧ va_K (dC, dI) classes [(cA, .long)] U)) (qmL (an_withdraw cx cl g x) (dC, dI) classes [(h0, .inr (0, [.int (nI p), .int (nI q), .int (nI (p * q)), .long (lN (p * q * (p * q))), .long (lN (sp_f p q)), .long (lN (sp_inv p q)), .long (lN (sp_cex p q)), .int (nI cx), .int (nI rd), .int (nI cl), .long (lN tt), .int (nI (sp_cnt (nx_withdraw cx cl g x) 30)), .ref q0])), (q0, .inl (cA, 30, .inr (.inl (fun j => lN ((nx_withdraw cx cl g x) j)))))] h0 q0) 0 0 (two h0 q0) := by
  refine Met.ofW (cc := b_X_withdraw) (maxL := 4) (ret := some .long) (by decide) rfl ?_
  intro pg ev s mi args below meth co s₁ B hml hv
  obtain ⟨rfl, hP, hK⟩ := hv
  have hx := B.exec
  have hb := B.bytes
  have hr := B.returns
  have hts := atoms_spec (ws := w_X_withdraw) B.pre
  have hown : s.vm.findClass R_X = some mi.cls := findClass_of_methodNamed B.named
  have hlocks := B.notSynchronized
  have hS : va_S (two h0 q0) s.heap s.heap [] := va_S.rf
  have hP : va_P (dC, dI) classes [(h0, .inr (0, [.int (nI p), .int (nI q), .int (nI (p * q)), .long (lN (p * q * (p * q))), .long (lN (sp_f p q)), .long (lN (sp_inv p q)), .long (lN (sp_cex p q)), .int (nI cx), .int (nI rd), .int (nI cl), .long (lN tt), .int (nI bc), .ref q0])), (q0, .inl (cA, 30, .inr (.inl (fun j => lN (g j)))))] s.heap := hP
  obtain ⟨A, hAe⟩ : ∃ A : Nat → Prop, A = two h0 q0 := ⟨_, rfl⟩
  rw [← hAe] at hS
  have hD : va_D A [(h0, .inr (0, [.int (nI p), .int (nI q), .int (nI (p * q)), .long (lN (p * q * (p * q))), .long (lN (sp_f p q)), .long (lN (sp_inv p q)), .long (lN (sp_cex p q)), .int (nI cx), .int (nI rd), .int (nI cl), .long (lN tt), .int (nI bc), .ref q0])), (q0, .inl (cA, 30, .inr (.inl (fun j => lN (g j)))))] := by rw [hAe]; exact mu_D hne
  have hl := lv_entry ([.ref h0, .int x]) (n := 4) (Nat.le_of_ble_eq_true rfl)
  rw [lg_entry_eq]
  generalize (lg_sl ([.ref h0, .int x]) ++ List.replicate (4 - (lg_sl ([.ref h0, .int x])).length) Slot.unset).toArray = ls at hl ⊢
  have hl : lv_has ls 4 [(0, .ref h0), (1, .int x)] := hl
  have hjn := jv_n hj
  have hcb := fa_cnt_le g 30
  refine lv_aload_n hx hb d_X_withdraw_0 rfl (lv_at hl 0 rfl) ?_
  refine pu_i (va_runV (As := []) (rest := []) ⟨hx, hb, hml, hown, hts⟩ (c_X_hasBox l dC dI h0 q0 cA p q cx rd cl tt bc g (by omega)) (cwV 0 hts (al_V (k_X_hasBox) (aw_t143) (aw_t145) (aw_p9) (aw_t1)) rfl rfl rfl (by decide +kernel) ⟨Nat.le_of_ble_eq_true rfl, Nat.le_of_ble_eq_true rfl⟩) (pu_preV (q0 := 0) (ci := 0) hK hP rfl rfl) rfl rfl hl.1 rfl (lv_room (Nat.le_of_ble_eq_true rfl)) d_X_withdraw_1 ⟨Nat.zero_le _, Nat.zero_le _⟩) hS (fun H locs hkp hS => ?_)
  have hP := hkp _ _ _ hP
  refine lv_if_ne (tgt := 11) hx hb d_X_withdraw_4 (by decide) (fun hc4 => ?_) (fun hc4 => ?_)
  · skip
    rw [bI_0] at hc4
    rw [Bool.not_eq_false] at hc4
    have hx0 := bx_t hc4
    obtain ⟨hk, hx1, hx6, hr2, hrp, hgj⟩ := jv_box hj hx0
    have hbg := ma_big hk
    have hp3 := hk.1.1
    have hq3 := hk.2.1.1
    have hp9 := hk.1.2.1
    have hq9 := hk.2.1.2.1
    have hkf := ma_keyf hk
    refine lv_aload_n hx hb d_X_withdraw_11 rfl (lv_at hl 0 rfl) ?_
    refine va_get (D := (dC, dI)) (ci := 0) (v := .int (nI cl)) (C := R_X) (T := F_X) (N := 13) hx hb hts f_X hown hK hP 0 rfl rfl 9 (by decide) (hts _ (al_m aw_t22)) (fun _ h9 => h9) rfl d_X_withdraw_12 ?_
    refine lv_if_eq (tgt := 22) hx hb d_X_withdraw_15 (by decide) (fun hc15 => ?_) (fun hc15 => ?_)
    · skip
      rw [← nI_0] at hc15
      rw [nI_eq (a := cl) (b := 0) (by omega) (by omega)] at hc15
      have hcl0 : cl ≠ 1 := by omega
      refine lv_iload_n hx hb d_X_withdraw_22 rfl (lv_at hl 1 rfl) ?_
      refine pu_i (va_runS (As := [.int x]) (rest := []) ⟨hx, hb, hml, hown, hts⟩ (c_X_isVoter l x) (va_cwS 1 hts (al_S (k_X_isVoter) (aw_t160) (aw_t161) (aw_t1)) rfl rfl rfl (by decide +kernel) ⟨Nat.le_of_ble_eq_true rfl, Nat.le_of_ble_eq_true rfl⟩) pu_preS rfl rfl hl.1 rfl (lv_room (Nat.le_of_ble_eq_true rfl)) d_X_withdraw_23 ⟨Nat.zero_le _, Nat.zero_le _⟩) hS (fun H locs hkp hS => ?_)
      have hP := hkp _ _ _ hP
      refine lv_if_ne (tgt := 33) hx hb d_X_withdraw_26 (by decide) (fun hc26 => ?_) (fun hc26 => ?_)
      · skip
        rw [bI_0] at hc26
        rw [Bool.not_eq_false] at hc26
        obtain ⟨a, ha1, ha2, rfl⟩ := sp_cand_of hc26
        have hga := (hgj a ha1).1
        have hcn := (fa_cnt g a 0 30).2 ha1
        have hcl0 : cl ≠ 1 := by omega
        refine lv_aload_n hx hb d_X_withdraw_33 rfl (lv_at hl 0 rfl) ?_
        refine va_get (D := (dC, dI)) (ci := 0) (v := .ref q0) (C := R_X) (T := F_X) (N := 13) hx hb hts f_X hown hK hP 0 rfl rfl 12 (by decide) (hts _ (al_m aw_t25)) (fun _ h9 => h9) rfl d_X_withdraw_34 ?_
        refine lv_iload_n hx hb d_X_withdraw_37 rfl (lv_at hl 1 rfl) ?_
        refine va_lald hx hb hK hP 1 0 rfl rfl (vp_in_nI (by omega) (by decide)) d_X_withdraw_38 ?_
        refine wk_l (y := lN (g a)) (by rw [nI_clamp (by omega)]) ?_
        refine lv_lstore_n (lv' := [(2, .long (lN (g a))), (0, .ref h0), (1, .int (nI a))]) hx hb d_X_withdraw_39 rfl hl (by decide) rfl (fun ls hl => ?_)
        refine lv_lload_n hx hb d_X_withdraw_40 rfl (lv_at hl 0 rfl) ?_
        refine lv_lconst (v := lN 0) hx hb d_X_withdraw_41 rfl ?_
        refine W.lcmp hx hb d_X_withdraw_42 ?_
        refine lv_if_ne (tgt := 50) hx hb d_X_withdraw_43 (by decide) (fun hc43 => ?_) (fun hc43 => ?_)
        · skip
          rw [lg_cmp_eq] at hc43
          rw [pk_lEQ (a := g a) (b := 0) (by omega) (by omega)] at hc43
          rw [if_neg hc43, if_pos rfl] at hcn
          refine lv_aload_n hx hb d_X_withdraw_50 rfl (lv_at hl 1 rfl) ?_
          refine va_get (D := (dC, dI)) (ci := 0) (v := .ref q0) (C := R_X) (T := F_X) (N := 13) hx hb hts f_X hown hK hP 0 rfl rfl 12 (by decide) (hts _ (al_m aw_t25)) (fun _ h9 => h9) rfl d_X_withdraw_51 ?_
          refine lv_iload_n hx hb d_X_withdraw_54 rfl (lv_at hl 2 rfl) ?_
          refine lv_lconst (v := lN 0) hx hb d_X_withdraw_55 rfl ?_
          refine va_last hx hb hK hP hD hS 1 0 rfl rfl (vp_in_nI (by omega) (by decide)) d_X_withdraw_56 (fun H locs hP hD hS => ?_)
          rw [nI_clamp (by omega), gu_eq] at hP hD
          have hP : va_P (dC, dI) classes [(h0, .inr (0, [.int (nI p), .int (nI q), .int (nI (p * q)), .long (lN (p * q * (p * q))), .long (lN (sp_f p q)), .long (lN (sp_inv p q)), .long (lN (sp_cex p q)), .int (nI cx), .int (nI rd), .int (nI cl), .long (lN tt), .int (nI bc), .ref q0])), (q0, .inl (cA, 30, .inr (.inl (fun j => lN ((gu g a 0) j)))))] H := hP
          have hD : va_D A [(h0, .inr (0, [.int (nI p), .int (nI q), .int (nI (p * q)), .long (lN (p * q * (p * q))), .long (lN (sp_f p q)), .long (lN (sp_inv p q)), .long (lN (sp_cex p q)), .int (nI cx), .int (nI rd), .int (nI cl), .long (lN tt), .int (nI bc), .ref q0])), (q0, .inl (cA, 30, .inr (.inl (fun j => lN ((gu g a 0) j)))))] := hD
          refine lv_aload_n hx hb d_X_withdraw_57 rfl (lv_at hl 1 rfl) ?_
          refine lv_dup hx hb d_X_withdraw_58 rfl ?_
          refine va_get (D := (dC, dI)) (ci := 0) (v := .int (nI bc)) (C := R_X) (T := F_X) (N := 13) hx hb hts f_X hown hK hP 0 rfl rfl 11 (by decide) (hts _ (al_m aw_t24)) (fun _ h9 => h9) rfl d_X_withdraw_59 ?_
          refine lv_iconst (v := nI 1) hx hb d_X_withdraw_62 (by decide) ?_
          refine lv_isub hx hb d_X_withdraw_63 ?_
          refine wk_i (y := nI (bc - 1)) (pk_sub (by omega)) ?_
          refine va_put (D := (dC, dI)) (ci := 0) (v := .int (nI (bc - 1))) (ty := .int) (C := R_X) (T := F_X) (N := 13) hx hb hts f_X t_X t_X_ok n_X hown hK hP hD hS 0 rfl rfl 11 (by decide) (hts _ (al_m aw_t24)) (fun _ h9 => h9) rfl (by decide +kernel) rfl rfl (Nat.le_of_ble_eq_true rfl) d_X_withdraw_64 (fun H locs hP hD hS => ?_)
          have hP : va_P (dC, dI) classes [(h0, .inr (0, [.int (nI p), .int (nI q), .int (nI (p * q)), .long (lN (p * q * (p * q))), .long (lN (sp_f p q)), .long (lN (sp_inv p q)), .long (lN (sp_cex p q)), .int (nI cx), .int (nI rd), .int (nI cl), .long (lN tt), .int (nI (bc - 1)), .ref q0])), (q0, .inl (cA, 30, .inr (.inl (fun j => lN ((gu g a 0) j)))))] H := hP
          have hD : va_D A [(h0, .inr (0, [.int (nI p), .int (nI q), .int (nI (p * q)), .long (lN (p * q * (p * q))), .long (lN (sp_f p q)), .long (lN (sp_inv p q)), .long (lN (sp_cex p q)), .int (nI cx), .int (nI rd), .int (nI cl), .long (lN tt), .int (nI (bc - 1)), .ref q0])), (q0, .inl (cA, 30, .inr (.inl (fun j => lN ((gu g a 0) j)))))] := hD
          refine lv_lload_n hx hb d_X_withdraw_67 rfl (lv_at hl 0 rfl) ?_
          rw [hAe] at hS
          exact mu_lret hx hb hr (by simp only [nx_withdraw, if_neg hx0, if_neg hcl0, hc26, if_true, ix_nat ha2]; rw [show sp_cnt (gu g a 0) 30 = bc - 1 from by omega]; exact hP) hS d_X_withdraw_68 hlocks (by simp [an_withdraw, hx0, hcl0, hc26, ix_nat ha2, hc43])
        · skip
          rw [lg_cmp_eq] at hc43
          rw [pk_lEQ (a := g a) (b := 0) (by omega) (by omega)] at hc43
          refine lv_ldc2 (v := -6) hx hb hown (hts _ (al_m aw_t168)) d_X_withdraw_46 ?_
          rw [hAe] at hS
          exact mu_lret hx hb hr (by simp only [nx_withdraw, if_neg hx0, if_neg hcl0, hc26, if_true, ix_nat ha2, gu_same hc43]; rw [hbc] at hP; exact hP) hS d_X_withdraw_49 hlocks (by simp [an_withdraw, hx0, hcl0, hc26, ix_nat ha2, hc43])
      · skip
        rw [bI_0] at hc26
        refine lv_ldc2 (v := -4) hx hb hown (hts _ (al_m aw_t92)) d_X_withdraw_29 ?_
        rw [hAe] at hS
        exact mu_lret hx hb hr (by simp only [nx_withdraw, if_neg hx0, if_neg hcl0, hc26, Bool.false_eq_true, if_false]; rw [hbc] at hP; exact hP) hS d_X_withdraw_32 hlocks (by simp [an_withdraw, hx0, hcl0, hc26])
    · skip
      rw [← nI_0] at hc15
      rw [nI_eq (a := cl) (b := 0) (by omega) (by omega)] at hc15
      have hc1 : cl = 1 := by omega
      refine lv_ldc2 (v := -3) hx hb hown (hts _ (al_m aw_t167)) d_X_withdraw_18 ?_
      rw [hAe] at hS
      exact mu_lret hx hb hr (by simp only [nx_withdraw, if_neg hx0, if_pos hc1]; rw [hbc] at hP; exact hP) hS d_X_withdraw_21 hlocks (by simp [an_withdraw, hx0, hc1])
  · skip
    rw [bI_0] at hc4
    have hx0 := bx_f hc4
    refine lv_ldc2 (v := -2) hx hb hown (hts _ (al_m aw_t147)) d_X_withdraw_7 ?_
    rw [hAe] at hS
    exact mu_lret hx hb hr (by simp only [nx_withdraw, if_pos hx0]; rw [hbc] at hP; exact hP) hS d_X_withdraw_10 hlocks (by simp [an_withdraw, hx0])

set_option maxHeartbeats 4000000 in
set_option maxRecDepth 100000 in
theorem c_X_cast (l : Launch) (dC : Nat → ClassId) (dI : Nat → Nat → Nat) (h0 q0 : Nat) (cA : ClassId) (p q cx rd cl tt bc : Nat) (g : Nat → Nat) (x : Int32) (y : Int64) (hj : Jv p q cx rd g) (hrd : rd < 2 ^ 31) (hcl : cl ≤ 1) (hbc : bc = sp_cnt g 30) (hne : h0 ≠ q0) : Met l y_X_cast w_X_cast ({ frames := 3, cells := 0, slots := 0, locals := 64 }) (va_Pc [.ref h0, .int x, .long y] (fun U => va_P (dC, dI) classes [(h0, .inr (0, [.int (nI p), .int (nI q), .int (nI (p * q)), .long (lN (p * q * (p * q))), .long (lN (sp_f p q)), .long (lN (sp_inv p q)), .long (lN (sp_cex p q)), .int (nI cx), .int (nI rd), .int (nI cl), .long (lN tt), .int (nI bc), .ref q0])), (q0, .inl (cA, 30, .inr (.inl (fun j => lN (g j)))))] U.heap ∧ va_K (dC, dI) classes [(cA, .long)] U)) (qmI (an_cast p q cx rd cl g x y) (dC, dI) classes [(h0, .inr (0, [.int (nI p), .int (nI q), .int (nI (p * q)), .long (lN (p * q * (p * q))), .long (lN (sp_f p q)), .long (lN (sp_inv p q)), .long (lN (sp_cex p q)), .int (nI cx), .int (nI rd), .int (nI cl), .long (lN tt), .int (nI (sp_cnt (nx_cast p q cx rd cl g x y) 30)), .ref q0])), (q0, .inl (cA, 30, .inr (.inl (fun j => lN ((nx_cast p q cx rd cl g x y) j)))))] h0 q0) 0 0 (two h0 q0) := by
  refine Met.ofW (cc := b_X_cast) (maxL := 5) (ret := some .int) (by decide) rfl ?_
  intro pg ev s mi args below meth co s₁ B hml hv
  obtain ⟨rfl, hP, hK⟩ := hv
  have hx := B.exec
  have hb := B.bytes
  have hr := B.returns
  have hts := atoms_spec (ws := w_X_cast) B.pre
  have hown : s.vm.findClass R_X = some mi.cls := findClass_of_methodNamed B.named
  have hlocks := B.notSynchronized
  have hS : va_S (two h0 q0) s.heap s.heap [] := va_S.rf
  have hP : va_P (dC, dI) classes [(h0, .inr (0, [.int (nI p), .int (nI q), .int (nI (p * q)), .long (lN (p * q * (p * q))), .long (lN (sp_f p q)), .long (lN (sp_inv p q)), .long (lN (sp_cex p q)), .int (nI cx), .int (nI rd), .int (nI cl), .long (lN tt), .int (nI bc), .ref q0])), (q0, .inl (cA, 30, .inr (.inl (fun j => lN (g j)))))] s.heap := hP
  obtain ⟨A, hAe⟩ : ∃ A : Nat → Prop, A = two h0 q0 := ⟨_, rfl⟩
  rw [← hAe] at hS
  have hD : va_D A [(h0, .inr (0, [.int (nI p), .int (nI q), .int (nI (p * q)), .long (lN (p * q * (p * q))), .long (lN (sp_f p q)), .long (lN (sp_inv p q)), .long (lN (sp_cex p q)), .int (nI cx), .int (nI rd), .int (nI cl), .long (lN tt), .int (nI bc), .ref q0])), (q0, .inl (cA, 30, .inr (.inl (fun j => lN (g j)))))] := by rw [hAe]; exact mu_D hne
  have hl := lv_entry ([.ref h0, .int x, .long y]) (n := 5) (Nat.le_of_ble_eq_true rfl)
  rw [lg_entry_eq]
  generalize (lg_sl ([.ref h0, .int x, .long y]) ++ List.replicate (5 - (lg_sl ([.ref h0, .int x, .long y])).length) Slot.unset).toArray = ls at hl ⊢
  have hl : lv_has ls 5 [(0, .ref h0), (1, .int x), (2, .long y)] := hl
  have hjn := jv_n hj
  have hcb := fa_cnt_le g 30
  refine lv_aload_n hx hb d_X_cast_0 rfl (lv_at hl 0 rfl) ?_
  refine pu_i (va_runV (As := []) (rest := []) ⟨hx, hb, hml, hown, hts⟩ (c_X_hasBox l dC dI h0 q0 cA p q cx rd cl tt bc g (by omega)) (cwV 0 hts (al_V (k_X_hasBox) (aw_t143) (aw_t145) (aw_p9) (aw_t1)) rfl rfl rfl (by decide +kernel) ⟨Nat.le_of_ble_eq_true rfl, Nat.le_of_ble_eq_true rfl⟩) (pu_preV (q0 := 0) (ci := 0) hK hP rfl rfl) rfl rfl hl.1 rfl (lv_room (Nat.le_of_ble_eq_true rfl)) d_X_cast_1 ⟨Nat.zero_le _, Nat.zero_le _⟩) hS (fun H locs hkp hS => ?_)
  have hP := hkp _ _ _ hP
  refine lv_if_ne (tgt := 10) hx hb d_X_cast_4 (by decide) (fun hc4 => ?_) (fun hc4 => ?_)
  · skip
    rw [bI_0] at hc4
    rw [Bool.not_eq_false] at hc4
    have hx0 := bx_t hc4
    obtain ⟨hk, hx1, hx6, hr2, hrp, hgj⟩ := jv_box hj hx0
    have hbg := ma_big hk
    have hp3 := hk.1.1
    have hq3 := hk.2.1.1
    have hp9 := hk.1.2.1
    have hq9 := hk.2.1.2.1
    have hkf := ma_keyf hk
    refine lv_aload_n hx hb d_X_cast_10 rfl (lv_at hl 0 rfl) ?_
    refine va_get (D := (dC, dI)) (ci := 0) (v := .int (nI cl)) (C := R_X) (T := F_X) (N := 13) hx hb hts f_X hown hK hP 0 rfl rfl 9 (by decide) (hts _ (al_m aw_t22)) (fun _ h9 => h9) rfl d_X_cast_11 ?_
    refine lv_if_eq (tgt := 20) hx hb d_X_cast_14 (by decide) (fun hc14 => ?_) (fun hc14 => ?_)
    · skip
      rw [← nI_0] at hc14
      rw [nI_eq (a := cl) (b := 0) (by omega) (by omega)] at hc14
      have hcl0 : cl ≠ 1 := by omega
      refine lv_iload_n hx hb d_X_cast_20 rfl (lv_at hl 1 rfl) ?_
      refine pu_i (va_runS (As := [.int x]) (rest := []) ⟨hx, hb, hml, hown, hts⟩ (c_X_isVoter l x) (va_cwS 1 hts (al_S (k_X_isVoter) (aw_t160) (aw_t161) (aw_t1)) rfl rfl rfl (by decide +kernel) ⟨Nat.le_of_ble_eq_true rfl, Nat.le_of_ble_eq_true rfl⟩) pu_preS rfl rfl hl.1 rfl (lv_room (Nat.le_of_ble_eq_true rfl)) d_X_cast_21 ⟨Nat.zero_le _, Nat.zero_le _⟩) hS (fun H locs hkp hS => ?_)
      have hP := hkp _ _ _ hP
      refine lv_if_eq (tgt := 35) hx hb d_X_cast_24 (by decide) (fun hc24 => ?_) (fun hc24 => ?_)
      · skip
        rw [bI_0] at hc24
        refine lv_bipush (v := -4) hx hb d_X_cast_35 (by decide) ?_
        rw [hAe] at hS
        exact mu_iret hx hb hr (by rw [show nx_cast p q cx rd cl g x y = g from cs_bad hx0 hcl0 (by simp [hc24])]; rw [hbc] at hP; exact hP) hS d_X_cast_37 hlocks ((ct_bad hx0 hcl0 (by simp [hc24])).symm)
      · skip
        rw [bI_0] at hc24
        rw [Bool.not_eq_false] at hc24
        refine lv_aload_n hx hb d_X_cast_27 rfl (lv_at hl 0 rfl) ?_
        refine lv_lload_n hx hb d_X_cast_28 rfl (lv_at hl 2 rfl) ?_
        refine pu_i (va_runV (As := [.long y]) (rest := []) ⟨hx, hb, hml, hown, hts⟩ (c_X_isSeal l dC dI h0 q0 cA p q cx rd cl tt bc g y hk) (cwV 1 hts (al_V (k_X_isSeal) (aw_t101) (aw_t103) (aw_p5) (aw_t1)) rfl rfl rfl (by decide +kernel) ⟨Nat.le_of_ble_eq_true rfl, Nat.le_of_ble_eq_true rfl⟩) (pu_preV (q0 := 0) (ci := 0) hK hP rfl rfl) rfl rfl hl.1 rfl (lv_room (Nat.le_of_ble_eq_true rfl)) d_X_cast_29 ⟨Nat.zero_le _, Nat.zero_le _⟩) hS (fun H locs hkp hS => ?_)
        have hP := hkp _ _ _ hP
        refine lv_if_ne (tgt := 38) hx hb d_X_cast_32 (by decide) (fun hc32 => ?_) (fun hc32 => ?_)
        · skip
          rw [bI_0] at hc32
          rw [Bool.not_eq_false] at hc32
          obtain ⟨a, ha1, ha2, rfl⟩ := sp_cand_of hc24
          obtain ⟨b, hb1, hb2, hb3, hb4, hb5, rfl⟩ := sp_isS_of hc32
          have hga := (hgj a ha1).1
          have hcn := (fa_cnt g a b 30).2 ha1
          rw [if_neg (show ¬ b = 0 by omega)] at hcn
          refine lv_aload_n hx hb d_X_cast_38 rfl (lv_at hl 0 rfl) ?_
          refine va_get (D := (dC, dI)) (ci := 0) (v := .ref q0) (C := R_X) (T := F_X) (N := 13) hx hb hts f_X hown hK hP 0 rfl rfl 12 (by decide) (hts _ (al_m aw_t25)) (fun _ h9 => h9) rfl d_X_cast_39 ?_
          refine lv_iload_n hx hb d_X_cast_42 rfl (lv_at hl 1 rfl) ?_
          refine va_lald hx hb hK hP 1 0 rfl rfl (vp_in_nI (by omega) (by decide)) d_X_cast_43 ?_
          refine wk_l (y := lN (g a)) (by rw [nI_clamp (by omega)]) ?_
          refine lv_lconst (v := lN 0) hx hb d_X_cast_44 rfl ?_
          refine W.lcmp hx hb d_X_cast_45 ?_
          refine lv_if_ne (tgt := 53) hx hb d_X_cast_46 (by decide) (fun hc46 => ?_) (fun hc46 => ?_)
          · skip
            rw [lg_cmp_eq] at hc46
            rw [pk_lEQ (a := g a) (b := 0) (by omega) (by omega)] at hc46
            rw [if_neg hc46] at hcn
            refine lv_iconst (v := nI 0) hx hb d_X_cast_53 (by decide) ?_
            refine lv_istore (lv' := [(4, .int (nI 0)), (0, .ref h0), (1, .int (nI a)), (2, .long (lN b))]) hx hb d_X_cast_54 hl (by decide) rfl (fun ls hl => ?_)
            refine lv_iload hx hb d_X_cast_56 (lv_at hl 0 rfl) ?_
            refine lv_if_eq (tgt := 77) hx hb d_X_cast_58 (by decide) (fun hc58 => ?_) (fun hc58 => ?_)
            · skip
              rw [← nI_0] at hc58
              rw [nI_eq (a := 0) (b := 0) (by omega) (by omega)] at hc58
              refine lv_aload_n hx hb d_X_cast_77 rfl (lv_at hl 1 rfl) ?_
              refine va_get (D := (dC, dI)) (ci := 0) (v := .ref q0) (C := R_X) (T := F_X) (N := 13) hx hb hts f_X hown hK hP 0 rfl rfl 12 (by decide) (hts _ (al_m aw_t25)) (fun _ h9 => h9) rfl d_X_cast_78 ?_
              refine lv_iload_n hx hb d_X_cast_81 rfl (lv_at hl 2 rfl) ?_
              refine lv_lload_n hx hb d_X_cast_82 rfl (lv_at hl 3 rfl) ?_
              refine va_last hx hb hK hP hD hS 1 0 rfl rfl (vp_in_nI (by omega) (by decide)) d_X_cast_83 (fun H locs hP hD hS => ?_)
              rw [nI_clamp (by omega), gu_eq] at hP hD
              have hP : va_P (dC, dI) classes [(h0, .inr (0, [.int (nI p), .int (nI q), .int (nI (p * q)), .long (lN (p * q * (p * q))), .long (lN (sp_f p q)), .long (lN (sp_inv p q)), .long (lN (sp_cex p q)), .int (nI cx), .int (nI rd), .int (nI cl), .long (lN tt), .int (nI bc), .ref q0])), (q0, .inl (cA, 30, .inr (.inl (fun j => lN ((gu g a b) j)))))] H := hP
              have hD : va_D A [(h0, .inr (0, [.int (nI p), .int (nI q), .int (nI (p * q)), .long (lN (p * q * (p * q))), .long (lN (sp_f p q)), .long (lN (sp_inv p q)), .long (lN (sp_cex p q)), .int (nI cx), .int (nI rd), .int (nI cl), .long (lN tt), .int (nI bc), .ref q0])), (q0, .inl (cA, 30, .inr (.inl (fun j => lN ((gu g a b) j)))))] := hD
              refine lv_iload hx hb d_X_cast_84 (lv_at hl 0 rfl) ?_
              refine lv_if_ne (tgt := 91) hx hb d_X_cast_86 (by decide) (fun hc86 => ?_) (fun hc86 => ?_)
              · skip
                rw [← nI_0] at hc86
                rw [nI_eq (a := 0) (b := 0) (by omega) (by omega)] at hc86
                omega
              · skip
                rw [← nI_0] at hc86
                rw [nI_eq (a := 0) (b := 0) (by omega) (by omega)] at hc86
                refine lv_iconst (v := nI 0) hx hb d_X_cast_89 (by decide) ?_
                rw [hAe] at hS
                exact mu_iret hx hb hr (by rw [cs_old hx0 hcl0 hc24 hc32 ha2 hb3 hc46]; rw [show sp_cnt (gu g a b) 30 = bc from by omega]; exact hP) hS d_X_cast_90 hlocks ((ct_old hx0 hcl0 hc24 hc32 ha2 hc46).symm)
            · skip
              rw [← nI_0] at hc58
              rw [nI_eq (a := 0) (b := 0) (by omega) (by omega)] at hc58
              omega
          · skip
            rw [lg_cmp_eq] at hc46
            rw [pk_lEQ (a := g a) (b := 0) (by omega) (by omega)] at hc46
            rw [if_pos hc46] at hcn
            refine lv_iconst (v := nI 1) hx hb d_X_cast_49 (by decide) ?_
            refine lv_goto (tgt := 54) hx hb d_X_cast_50 (by decide) ?_
            refine lv_istore (lv' := [(4, .int (nI 1)), (0, .ref h0), (1, .int (nI a)), (2, .long (lN b))]) hx hb d_X_cast_54 hl (by decide) rfl (fun ls hl => ?_)
            refine lv_iload hx hb d_X_cast_56 (lv_at hl 0 rfl) ?_
            refine lv_if_eq (tgt := 77) hx hb d_X_cast_58 (by decide) (fun hc58 => ?_) (fun hc58 => ?_)
            · skip
              rw [← nI_0] at hc58
              rw [nI_eq (a := 1) (b := 0) (by omega) (by omega)] at hc58
              omega
            · skip
              rw [← nI_0] at hc58
              rw [nI_eq (a := 1) (b := 0) (by omega) (by omega)] at hc58
              refine lv_aload_n hx hb d_X_cast_61 rfl (lv_at hl 1 rfl) ?_
              refine va_get (D := (dC, dI)) (ci := 0) (v := .int (nI bc)) (C := R_X) (T := F_X) (N := 13) hx hb hts f_X hown hK hP 0 rfl rfl 11 (by decide) (hts _ (al_m aw_t24)) (fun _ h9 => h9) rfl d_X_cast_62 ?_
              refine lv_aload_n hx hb d_X_cast_65 rfl (lv_at hl 1 rfl) ?_
              refine va_get (D := (dC, dI)) (ci := 0) (v := .int (nI rd)) (C := R_X) (T := F_X) (N := 13) hx hb hts f_X hown hK hP 0 rfl rfl 8 (by decide) (hts _ (al_m aw_t21)) (fun _ h9 => h9) rfl d_X_cast_66 ?_
              refine lv_iconst (v := nI 1) hx hb d_X_cast_69 (by decide) ?_
              refine lv_isub hx hb d_X_cast_70 ?_
              refine wk_i (y := nI (rd - 1)) (pk_sub (by omega)) ?_
              refine lv_icmp_lt (tgt := 77) hx hb d_X_cast_71 (by decide) (fun hc71 => ?_) (fun hc71 => ?_)
              · skip
                rw [nI_ltI (a := bc) (b := rd - 1) (by omega) (by omega)] at hc71
                refine lv_aload_n hx hb d_X_cast_77 rfl (lv_at hl 1 rfl) ?_
                refine va_get (D := (dC, dI)) (ci := 0) (v := .ref q0) (C := R_X) (T := F_X) (N := 13) hx hb hts f_X hown hK hP 0 rfl rfl 12 (by decide) (hts _ (al_m aw_t25)) (fun _ h9 => h9) rfl d_X_cast_78 ?_
                refine lv_iload_n hx hb d_X_cast_81 rfl (lv_at hl 2 rfl) ?_
                refine lv_lload_n hx hb d_X_cast_82 rfl (lv_at hl 3 rfl) ?_
                refine va_last hx hb hK hP hD hS 1 0 rfl rfl (vp_in_nI (by omega) (by decide)) d_X_cast_83 (fun H locs hP hD hS => ?_)
                rw [nI_clamp (by omega), gu_eq] at hP hD
                have hP : va_P (dC, dI) classes [(h0, .inr (0, [.int (nI p), .int (nI q), .int (nI (p * q)), .long (lN (p * q * (p * q))), .long (lN (sp_f p q)), .long (lN (sp_inv p q)), .long (lN (sp_cex p q)), .int (nI cx), .int (nI rd), .int (nI cl), .long (lN tt), .int (nI bc), .ref q0])), (q0, .inl (cA, 30, .inr (.inl (fun j => lN ((gu g a b) j)))))] H := hP
                have hD : va_D A [(h0, .inr (0, [.int (nI p), .int (nI q), .int (nI (p * q)), .long (lN (p * q * (p * q))), .long (lN (sp_f p q)), .long (lN (sp_inv p q)), .long (lN (sp_cex p q)), .int (nI cx), .int (nI rd), .int (nI cl), .long (lN tt), .int (nI bc), .ref q0])), (q0, .inl (cA, 30, .inr (.inl (fun j => lN ((gu g a b) j)))))] := hD
                refine lv_iload hx hb d_X_cast_84 (lv_at hl 0 rfl) ?_
                refine lv_if_ne (tgt := 91) hx hb d_X_cast_86 (by decide) (fun hc86 => ?_) (fun hc86 => ?_)
                · skip
                  rw [← nI_0] at hc86
                  rw [nI_eq (a := 1) (b := 0) (by omega) (by omega)] at hc86
                  refine lv_aload_n hx hb d_X_cast_91 rfl (lv_at hl 1 rfl) ?_
                  refine lv_dup hx hb d_X_cast_92 rfl ?_
                  refine va_get (D := (dC, dI)) (ci := 0) (v := .int (nI bc)) (C := R_X) (T := F_X) (N := 13) hx hb hts f_X hown hK hP 0 rfl rfl 11 (by decide) (hts _ (al_m aw_t24)) (fun _ h9 => h9) rfl d_X_cast_93 ?_
                  refine lv_iconst (v := nI 1) hx hb d_X_cast_96 (by decide) ?_
                  refine lv_iadd hx hb d_X_cast_97 ?_
                  refine wk_i (y := nI (bc + 1)) (nI_add bc 1) ?_
                  refine va_put (D := (dC, dI)) (ci := 0) (v := .int (nI (bc + 1))) (ty := .int) (C := R_X) (T := F_X) (N := 13) hx hb hts f_X t_X t_X_ok n_X hown hK hP hD hS 0 rfl rfl 11 (by decide) (hts _ (al_m aw_t24)) (fun _ h9 => h9) rfl (by decide +kernel) rfl rfl (Nat.le_of_ble_eq_true rfl) d_X_cast_98 (fun H locs hP hD hS => ?_)
                  have hP : va_P (dC, dI) classes [(h0, .inr (0, [.int (nI p), .int (nI q), .int (nI (p * q)), .long (lN (p * q * (p * q))), .long (lN (sp_f p q)), .long (lN (sp_inv p q)), .long (lN (sp_cex p q)), .int (nI cx), .int (nI rd), .int (nI cl), .long (lN tt), .int (nI (bc + 1)), .ref q0])), (q0, .inl (cA, 30, .inr (.inl (fun j => lN ((gu g a b) j)))))] H := hP
                  have hD : va_D A [(h0, .inr (0, [.int (nI p), .int (nI q), .int (nI (p * q)), .long (lN (p * q * (p * q))), .long (lN (sp_f p q)), .long (lN (sp_inv p q)), .long (lN (sp_cex p q)), .int (nI cx), .int (nI rd), .int (nI cl), .long (lN tt), .int (nI (bc + 1)), .ref q0])), (q0, .inl (cA, 30, .inr (.inl (fun j => lN ((gu g a b) j)))))] := hD
                  refine lv_iconst (v := nI 1) hx hb d_X_cast_101 (by decide) ?_
                  rw [hAe] at hS
                  exact mu_iret hx hb hr (by rw [cs_new hx0 hcl0 hc24 hc32 ha2 hb3 hc46 (by omega)]; rw [show sp_cnt (gu g a b) 30 = bc + 1 from by omega]; exact hP) hS d_X_cast_102 hlocks ((ct_new hx0 hcl0 hc24 hc32 ha2 hc46 (by omega)).symm)
                · skip
                  rw [← nI_0] at hc86
                  rw [nI_eq (a := 1) (b := 0) (by omega) (by omega)] at hc86
                  omega
              · skip
                rw [nI_ltI (a := bc) (b := rd - 1) (by omega) (by omega)] at hc71
                refine lv_bipush (v := -5) hx hb d_X_cast_74 (by decide) ?_
                rw [hAe] at hS
                exact mu_iret hx hb hr (by rw [cs_full hx0 hcl0 hc24 hc32 ha2 hc46 (by omega)]; rw [hbc] at hP; exact hP) hS d_X_cast_76 hlocks ((ct_full hx0 hcl0 hc24 hc32 ha2 hc46 (by omega)).symm)
        · skip
          rw [bI_0] at hc32
          refine lv_bipush (v := -4) hx hb d_X_cast_35 (by decide) ?_
          rw [hAe] at hS
          exact mu_iret hx hb hr (by rw [show nx_cast p q cx rd cl g x y = g from cs_bad hx0 hcl0 (by simp [hc24, hc32])]; rw [hbc] at hP; exact hP) hS d_X_cast_37 hlocks ((ct_bad hx0 hcl0 (by simp [hc24, hc32])).symm)
    · skip
      rw [← nI_0] at hc14
      rw [nI_eq (a := cl) (b := 0) (by omega) (by omega)] at hc14
      have hc1 : cl = 1 := by omega
      refine lv_bipush (v := -3) hx hb d_X_cast_17 (by decide) ?_
      rw [hAe] at hS
      exact mu_iret hx hb hr (by simp only [nx_cast, if_neg hx0, if_pos hc1]; rw [hbc] at hP; exact hP) hS d_X_cast_19 hlocks (by simp [an_cast, hx0, hc1])
  · skip
    rw [bI_0] at hc4
    have hx0 := bx_f hc4
    refine lv_bipush (v := -2) hx hb d_X_cast_7 (by decide) ?_
    rw [hAe] at hS
    exact mu_iret hx hb hr (by simp only [nx_cast, if_pos hx0]; rw [hbc] at hP; exact hP) hS d_X_cast_9 hlocks (by simp [an_cast, hx0])
