set_option maxHeartbeats 4000000 in
set_option maxRecDepth 100000 in
theorem ls_6 {pg : Program} {l : Launch} {ev : Env} {s : State} {mi : MethodId} {below : List Frame} {meth : Method} {co : Code} {b L : Nat} {xs : Nat → Int32} {H : Heap} {locs : List Loc} {Q : State → Prop} {dC : Nat → ClassId} {dI : Nat → Nat → Nat} {h0 q0 h1 q1 : Nat} {cA cB : ClassId} {w0 : Cond} {i p q cx rd cl tt cd bx : Nat} {g : Nat → Nat} {ls : Array Slot} (hx : pg.tables.exec = Jvm.exec) (hb : co.code = code) (hml : co.maxLocals = 4) (hown : s.vm.findClass R_L = some mi.cls) (hts : ∀ w ∈ w0 :: al_w, w.before #[Value.ref b] s = true) (hX : va_X b L xs s s.heap) (hbl : b < s.heap.size) (hKX : va_K (dC, dI) classes [(cA, .long)] s) (hKM : va_K (dC, dI) classes [(cB, .long)] s) (hap : lw_ap s.heap.size h0 q0 h1 q1) (hL : L ≤ 2560) (hi : i + 5 ≤ L) (hI : LI p q cx rd cl tt cd bx g) (hl : lv_has ls 4 [(3, .int (nI i)), (2, .ref h1), (1, .ref h0), (0, .ref b)]) (hPX : va_P (dC, dI) classes [(h0, .inr (0, [.int (nI p), .int (nI q), .int (nI (p * q)), .long (lN (p * q * (p * q))), .long (lN (sp_f p q)), .long (lN (sp_inv p q)), .long (lN (sp_cex p q)), .int (nI cx), .int (nI rd), .int (nI cl), .long (lN tt), .int (nI (sp_cnt g 30)), .ref q0])), (q0, .inl (cA, 30, .inr (.inl (fun j => lN (g j)))))] H) (hPM : va_P (dC, dI) classes [(h1, .inr (1, [.long (lN (p * q)), .long (lN (p * q * (p * q))), .long (lN (sp_f p q)), .long (lN (sp_cex p q)), .int (nI bx), .int (nI cl), .int (nI cd), .int (nI rd), .ref q1])), (q1, .inl (cB, 30, .inr (.inl (fun j => lN (g j)))))] H) (hS : va_S (fun q => s.heap.size ≤ q) s.heap H locs) (kk : ∀ (p q cx rd cl tt cd bx : Nat) (g : Nat → Nat) (H : Heap) (locs : List Loc), va_P (dC, dI) classes [(h0, .inr (0, [.int (nI p), .int (nI q), .int (nI (p * q)), .long (lN (p * q * (p * q))), .long (lN (sp_f p q)), .long (lN (sp_inv p q)), .long (lN (sp_cex p q)), .int (nI cx), .int (nI rd), .int (nI cl), .long (lN tt), .int (nI (sp_cnt g 30)), .ref q0])), (q0, .inl (cA, 30, .inr (.inl (fun j => lN (g j)))))] H → va_P (dC, dI) classes [(h1, .inr (1, [.long (lN (p * q)), .long (lN (p * q * (p * q))), .long (lN (sp_f p q)), .long (lN (sp_cex p q)), .int (nI bx), .int (nI cl), .int (nI cd), .int (nI rd), .ref q1])), (q1, .inl (cB, 30, .inr (.inl (fun j => lN (g j)))))] H → va_S (fun q => s.heap.size ≤ q) s.heap H locs → LI p q cx rd cl tt cd bx g → W pg l ev room_1 s mi #[Value.ref b] below meth co H locs 4 82 Q (F0 mi 905 ls [])) : W pg l ev room_1 s mi #[Value.ref b] below meth co H locs 4 82 Q (F0 mi 462 ls []) := by
  refine lv_aload_n hx hb d_L_law_462 rfl (lv_at hl 2 rfl) ?_
  refine lv_aload_n hx hb d_L_law_463 rfl (lv_at hl 3 rfl) ?_
  refine lv_iload_n hx hb d_L_law_464 rfl (lv_at hl 0 rfl) ?_
  refine lv_iconst (v := nI 1) hx hb d_L_law_465 (by decide) ?_
  refine lv_iadd hx hb d_L_law_466 ?_
  refine wk_i (y := nI (i + 1)) (nI_add i 1) ?_
  refine va_sld hx hb hX hbl (Nat.not_le.mpr hbl) hS (vp_in_nI (by omega) (by omega)) d_L_law_467 ?_
  refine wk_i (y := xs (i + 1)) (by rw [nI_clamp (by omega)]) ?_
  refine lv_i2l (v := Int32.toInt64 (xs (i + 1))) hx hb d_L_law_468 (rfl) ?_
  refine lv_bipush (v := nI 32) hx hb d_L_law_469 (by decide) ?_
  refine lv_lshl (v := (Int32.toInt64 (xs (i + 1))) <<< (Int32.toInt64 (nI 32) &&& 63)) hx hb d_L_law_471 (rfl) ?_
  refine lv_aload_n hx hb d_L_law_472 rfl (lv_at hl 3 rfl) ?_
  refine lv_iload_n hx hb d_L_law_473 rfl (lv_at hl 0 rfl) ?_
  refine lv_iconst (v := nI 2) hx hb d_L_law_474 (by decide) ?_
  refine lv_iadd hx hb d_L_law_475 ?_
  refine wk_i (y := nI (i + 2)) (nI_add i 2) ?_
  refine va_sld hx hb hX hbl (Nat.not_le.mpr hbl) hS (vp_in_nI (by omega) (by omega)) d_L_law_476 ?_
  refine wk_i (y := xs (i + 2)) (by rw [nI_clamp (by omega)]) ?_
  refine lv_i2l (v := Int32.toInt64 (xs (i + 2))) hx hb d_L_law_477 (rfl) ?_
  refine lv_ldc2 (v := lN 4294967295) hx hb hown (hts _ (al_m aw_t358)) d_L_law_478 ?_
  refine lv_land hx hb d_L_law_481 ?_
  refine lv_lor hx hb d_L_law_482 ?_
  refine wk_l (y := lb (xs (i + 1)) (xs (i + 2))) rfl ?_
  refine lv_aload_n hx hb d_L_law_483 rfl (lv_at hl 3 rfl) ?_
  refine lv_iload_n hx hb d_L_law_484 rfl (lv_at hl 0 rfl) ?_
  refine lv_iconst (v := nI 3) hx hb d_L_law_485 (by decide) ?_
  refine lv_iadd hx hb d_L_law_486 ?_
  refine wk_i (y := nI (i + 3)) (nI_add i 3) ?_
  refine va_sld hx hb hX hbl (Nat.not_le.mpr hbl) hS (vp_in_nI (by omega) (by omega)) d_L_law_487 ?_
  refine wk_i (y := xs (i + 3)) (by rw [nI_clamp (by omega)]) ?_
  refine pu_l (va_runV (As := [.long (lb (xs (i + 1)) (xs (i + 2))), .int (xs (i + 3))]) (rest := []) ⟨hx, hb, hml, hown, hts⟩ (c_X_power l dC dI h0 q0 cA p q cx rd cl tt (sp_cnt g 30) g (lb (xs (i + 1)) (xs (i + 2))) (xs (i + 3)) hI.1) (cwV 2 hts (al_V (k_X_power) (aw_t121) (aw_t122) (aw_t123) (aw_t1)) rfl rfl rfl (by decide +kernel) ⟨Nat.le_of_ble_eq_true rfl, Nat.le_of_ble_eq_true rfl⟩) (pu_preV (q0 := 0) (ci := 0) hKX hPX rfl rfl) rfl rfl hl.1 rfl (lv_room (Nat.le_of_ble_eq_true rfl)) d_L_law_488 ⟨Nat.le_of_ble_eq_true rfl, Nat.le_of_ble_eq_true rfl⟩) hS (fun H locs hkp hS => ?_)
  have hPX := hkp _ _ _ hPX
  have hPM := hkp _ _ _ hPM
  refine lv_aload_n hx hb d_L_law_491 rfl (lv_at hl 1 rfl) ?_
  refine lv_aload_n hx hb d_L_law_492 rfl (lv_at hl 3 rfl) ?_
  refine lv_iload_n hx hb d_L_law_493 rfl (lv_at hl 0 rfl) ?_
  refine lv_iconst (v := nI 1) hx hb d_L_law_494 (by decide) ?_
  refine lv_iadd hx hb d_L_law_495 ?_
  refine wk_i (y := nI (i + 1)) (nI_add i 1) ?_
  refine va_sld hx hb hX hbl (Nat.not_le.mpr hbl) hS (vp_in_nI (by omega) (by omega)) d_L_law_496 ?_
  refine wk_i (y := xs (i + 1)) (by rw [nI_clamp (by omega)]) ?_
  refine lv_i2l (v := Int32.toInt64 (xs (i + 1))) hx hb d_L_law_497 (rfl) ?_
  refine lv_bipush (v := nI 32) hx hb d_L_law_498 (by decide) ?_
  refine lv_lshl (v := (Int32.toInt64 (xs (i + 1))) <<< (Int32.toInt64 (nI 32) &&& 63)) hx hb d_L_law_500 (rfl) ?_
  refine lv_aload_n hx hb d_L_law_501 rfl (lv_at hl 3 rfl) ?_
  refine lv_iload_n hx hb d_L_law_502 rfl (lv_at hl 0 rfl) ?_
  refine lv_iconst (v := nI 2) hx hb d_L_law_503 (by decide) ?_
  refine lv_iadd hx hb d_L_law_504 ?_
  refine wk_i (y := nI (i + 2)) (nI_add i 2) ?_
  refine va_sld hx hb hX hbl (Nat.not_le.mpr hbl) hS (vp_in_nI (by omega) (by omega)) d_L_law_505 ?_
  refine wk_i (y := xs (i + 2)) (by rw [nI_clamp (by omega)]) ?_
  refine lv_i2l (v := Int32.toInt64 (xs (i + 2))) hx hb d_L_law_506 (rfl) ?_
  refine lv_ldc2 (v := lN 4294967295) hx hb hown (hts _ (al_m aw_t358)) d_L_law_507 ?_
  refine lv_land hx hb d_L_law_510 ?_
  refine lv_lor hx hb d_L_law_511 ?_
  refine wk_l (y := lb (xs (i + 1)) (xs (i + 2))) rfl ?_
  refine lv_aload_n hx hb d_L_law_512 rfl (lv_at hl 3 rfl) ?_
  refine lv_iload_n hx hb d_L_law_513 rfl (lv_at hl 0 rfl) ?_
  refine lv_iconst (v := nI 3) hx hb d_L_law_514 (by decide) ?_
  refine lv_iadd hx hb d_L_law_515 ?_
  refine wk_i (y := nI (i + 3)) (nI_add i 3) ?_
  refine va_sld hx hb hX hbl (Nat.not_le.mpr hbl) hS (vp_in_nI (by omega) (by omega)) d_L_law_516 ?_
  refine wk_i (y := xs (i + 3)) (by rw [nI_clamp (by omega)]) ?_
  refine pu_l (va_runV (As := [.long (lb (xs (i + 1)) (xs (i + 2))), .int (xs (i + 3))]) (rest := [.long (an_power p q (lb (xs (i + 1)) (xs (i + 2))) (xs (i + 3)))]) ⟨hx, hb, hml, hown, hts⟩ (c_M_power l dC dI h1 q1 cB p q bx cl cd rd g (lb (xs (i + 1)) (xs (i + 2))) (xs (i + 3)) cx hI.1) (cwV 2 hts (al_V (k_M_power) (aw_t295) (aw_t296) (aw_t297) (aw_t2)) rfl rfl rfl (by decide +kernel) ⟨Nat.le_of_ble_eq_true rfl, Nat.le_of_ble_eq_true rfl⟩) (pu_preV (q0 := 0) (ci := 1) hKM hPM rfl rfl) rfl rfl hl.1 rfl (lv_room (Nat.le_of_ble_eq_true rfl)) d_L_law_517 ⟨Nat.le_of_ble_eq_true rfl, Nat.le_of_ble_eq_true rfl⟩) hS (fun H locs hkp hS => ?_)
  have hPX := hkp _ _ _ hPX
  have hPM := hkp _ _ _ hPM
  refine W.lcmp hx hb d_L_law_520 ?_
  refine lv_if_eq (tgt := 905) hx hb d_L_law_521 (by decide) (fun hc521 => ?_) (fun hc521 => ?_)
  · skip
    rw [lg_cmp_eq] at hc521
    exact kk p q cx rd cl tt cd bx g H locs hPX hPM hS (hI)
  · skip
    rw [lg_cmp_eq] at hc521
    exact absurd rfl hc521

set_option maxHeartbeats 4000000 in
set_option maxRecDepth 100000 in
theorem ls_7 {pg : Program} {l : Launch} {ev : Env} {s : State} {mi : MethodId} {below : List Frame} {meth : Method} {co : Code} {b L : Nat} {xs : Nat → Int32} {H : Heap} {locs : List Loc} {Q : State → Prop} {dC : Nat → ClassId} {dI : Nat → Nat → Nat} {h0 q0 h1 q1 : Nat} {cA cB : ClassId} {w0 : Cond} {i p q cx rd cl tt cd bx : Nat} {g : Nat → Nat} {ls : Array Slot} (hx : pg.tables.exec = Jvm.exec) (hb : co.code = code) (hml : co.maxLocals = 4) (hown : s.vm.findClass R_L = some mi.cls) (hts : ∀ w ∈ w0 :: al_w, w.before #[Value.ref b] s = true) (hX : va_X b L xs s s.heap) (hbl : b < s.heap.size) (hKX : va_K (dC, dI) classes [(cA, .long)] s) (hKM : va_K (dC, dI) classes [(cB, .long)] s) (hap : lw_ap s.heap.size h0 q0 h1 q1) (hL : L ≤ 2560) (hi : i + 5 ≤ L) (hI : LI p q cx rd cl tt cd bx g) (hl : lv_has ls 4 [(3, .int (nI i)), (2, .ref h1), (1, .ref h0), (0, .ref b)]) (hPX : va_P (dC, dI) classes [(h0, .inr (0, [.int (nI p), .int (nI q), .int (nI (p * q)), .long (lN (p * q * (p * q))), .long (lN (sp_f p q)), .long (lN (sp_inv p q)), .long (lN (sp_cex p q)), .int (nI cx), .int (nI rd), .int (nI cl), .long (lN tt), .int (nI (sp_cnt g 30)), .ref q0])), (q0, .inl (cA, 30, .inr (.inl (fun j => lN (g j)))))] H) (hPM : va_P (dC, dI) classes [(h1, .inr (1, [.long (lN (p * q)), .long (lN (p * q * (p * q))), .long (lN (sp_f p q)), .long (lN (sp_cex p q)), .int (nI bx), .int (nI cl), .int (nI cd), .int (nI rd), .ref q1])), (q1, .inl (cB, 30, .inr (.inl (fun j => lN (g j)))))] H) (hS : va_S (fun q => s.heap.size ≤ q) s.heap H locs) (kk : ∀ (p q cx rd cl tt cd bx : Nat) (g : Nat → Nat) (H : Heap) (locs : List Loc), va_P (dC, dI) classes [(h0, .inr (0, [.int (nI p), .int (nI q), .int (nI (p * q)), .long (lN (p * q * (p * q))), .long (lN (sp_f p q)), .long (lN (sp_inv p q)), .long (lN (sp_cex p q)), .int (nI cx), .int (nI rd), .int (nI cl), .long (lN tt), .int (nI (sp_cnt g 30)), .ref q0])), (q0, .inl (cA, 30, .inr (.inl (fun j => lN (g j)))))] H → va_P (dC, dI) classes [(h1, .inr (1, [.long (lN (p * q)), .long (lN (p * q * (p * q))), .long (lN (sp_f p q)), .long (lN (sp_cex p q)), .int (nI bx), .int (nI cl), .int (nI cd), .int (nI rd), .ref q1])), (q1, .inl (cB, 30, .inr (.inl (fun j => lN (g j)))))] H → va_S (fun q => s.heap.size ≤ q) s.heap H locs → LI p q cx rd cl tt cd bx g → W pg l ev room_1 s mi #[Value.ref b] below meth co H locs 4 82 Q (F0 mi 905 ls [])) : W pg l ev room_1 s mi #[Value.ref b] below meth co H locs 4 82 Q (F0 mi 526 ls []) := by
  refine lv_aload_n hx hb d_L_law_526 rfl (lv_at hl 2 rfl) ?_
  refine lv_aload_n hx hb d_L_law_527 rfl (lv_at hl 3 rfl) ?_
  refine lv_iload_n hx hb d_L_law_528 rfl (lv_at hl 0 rfl) ?_
  refine lv_iconst (v := nI 1) hx hb d_L_law_529 (by decide) ?_
  refine lv_iadd hx hb d_L_law_530 ?_
  refine wk_i (y := nI (i + 1)) (nI_add i 1) ?_
  refine va_sld hx hb hX hbl (Nat.not_le.mpr hbl) hS (vp_in_nI (by omega) (by omega)) d_L_law_531 ?_
  refine wk_i (y := xs (i + 1)) (by rw [nI_clamp (by omega)]) ?_
  refine lv_aload_n hx hb d_L_law_532 rfl (lv_at hl 3 rfl) ?_
  refine lv_iload_n hx hb d_L_law_533 rfl (lv_at hl 0 rfl) ?_
  refine lv_iconst (v := nI 2) hx hb d_L_law_534 (by decide) ?_
  refine lv_iadd hx hb d_L_law_535 ?_
  refine wk_i (y := nI (i + 2)) (nI_add i 2) ?_
  refine va_sld hx hb hX hbl (Nat.not_le.mpr hbl) hS (vp_in_nI (by omega) (by omega)) d_L_law_536 ?_
  refine wk_i (y := xs (i + 2)) (by rw [nI_clamp (by omega)]) ?_
  refine mu_i (wo := _) (va_runV (As := [.int (xs (i + 1)), .int (xs (i + 2))]) (rest := []) ⟨hx, hb, hml, hown, hts⟩ (c_X_open l dC dI h0 q0 cA p q cx rd cl tt (sp_cnt g 30) g (xs (i + 1)) (xs (i + 2)) hI.1 hap.2.2.2.2.1) (cwV 2 hts (al_V (k_X_open) (aw_t128) (aw_t129) (aw_t130) (aw_t1)) rfl rfl rfl (by decide +kernel) ⟨Nat.le_of_ble_eq_true rfl, Nat.le_of_ble_eq_true rfl⟩) (pu_preV (q0 := 0) (ci := 0) hKX hPX rfl rfl) rfl rfl hl.1 rfl (lv_room (Nat.le_of_ble_eq_true rfl)) d_L_law_537 ⟨Nat.le_of_ble_eq_true rfl, Nat.le_of_ble_eq_true rfl⟩) hS hap.1 hap.2.1 (mu_o2 ⟨Ne.symm hap.2.2.2.2.2.1, Ne.symm hap.2.2.2.2.2.2.2.1⟩ ⟨Ne.symm hap.2.2.2.2.2.2.1, Ne.symm hap.2.2.2.2.2.2.2.2.1⟩) hPM (fun H locs hPX hPM hS => ?_)
  refine lv_aload_n hx hb d_L_law_540 rfl (lv_at hl 1 rfl) ?_
  refine lv_aload_n hx hb d_L_law_541 rfl (lv_at hl 3 rfl) ?_
  refine lv_iload_n hx hb d_L_law_542 rfl (lv_at hl 0 rfl) ?_
  refine lv_iconst (v := nI 1) hx hb d_L_law_543 (by decide) ?_
  refine lv_iadd hx hb d_L_law_544 ?_
  refine wk_i (y := nI (i + 1)) (nI_add i 1) ?_
  refine va_sld hx hb hX hbl (Nat.not_le.mpr hbl) hS (vp_in_nI (by omega) (by omega)) d_L_law_545 ?_
  refine wk_i (y := xs (i + 1)) (by rw [nI_clamp (by omega)]) ?_
  refine lv_aload_n hx hb d_L_law_546 rfl (lv_at hl 3 rfl) ?_
  refine lv_iload_n hx hb d_L_law_547 rfl (lv_at hl 0 rfl) ?_
  refine lv_iconst (v := nI 2) hx hb d_L_law_548 (by decide) ?_
  refine lv_iadd hx hb d_L_law_549 ?_
  refine wk_i (y := nI (i + 2)) (nI_add i 2) ?_
  refine va_sld hx hb hX hbl (Nat.not_le.mpr hbl) hS (vp_in_nI (by omega) (by omega)) d_L_law_550 ?_
  refine wk_i (y := xs (i + 2)) (by rw [nI_clamp (by omega)]) ?_
  refine mu_i (wo := _) (va_runV (As := [.int (xs (i + 1)), .int (xs (i + 2))]) (rest := [.int (bI (sp_open p q (xs (i + 1)) (xs (i + 2))))]) ⟨hx, hb, hml, hown, hts⟩ (c_M_open l dC dI h1 q1 cB p q bx cl cd rd g (xs (i + 1)) (xs (i + 2)) cx hI.1 hap.2.2.2.2.2.2.2.2.2) (cwV 2 hts (al_V (k_M_open) (aw_t299) (aw_t300) (aw_t301) (aw_t2)) rfl rfl rfl (by decide +kernel) ⟨Nat.le_of_ble_eq_true rfl, Nat.le_of_ble_eq_true rfl⟩) (pu_preV (q0 := 0) (ci := 1) hKM hPM rfl rfl) rfl rfl hl.1 rfl (lv_room (Nat.le_of_ble_eq_true rfl)) d_L_law_551 ⟨Nat.le_of_ble_eq_true rfl, Nat.le_of_ble_eq_true rfl⟩) hS hap.2.2.1 hap.2.2.2.1 (mu_o2 ⟨hap.2.2.2.2.2.1, hap.2.2.2.2.2.2.1⟩ ⟨hap.2.2.2.2.2.2.2.1, hap.2.2.2.2.2.2.2.2.1⟩) hPX (fun H locs hPM hPX hS => ?_)
  rw [li_cnt] at hPX
  refine lv_icmp_eq (tgt := 905) hx hb d_L_law_554 (by decide) (fun hc554 => ?_) (fun hc554 => ?_)
  · skip
    exact kk p q (sel (sp_open p q (xs (i + 1)) (xs (i + 2))) (xs (i + 1)).toInt.toNat cx) (sel (sp_open p q (xs (i + 1)) (xs (i + 2))) (xs (i + 2)).toInt.toNat rd) (sel (sp_open p q (xs (i + 1)) (xs (i + 2))) 0 cl) tt (sel (sp_open p q (xs (i + 1)) (xs (i + 2))) (xs (i + 1)).toInt.toNat cd) (sel (sp_open p q (xs (i + 1)) (xs (i + 2))) 1 bx) (selg (sp_open p q (xs (i + 1)) (xs (i + 2))) (fz g 30) g) H locs hPX hPM hS (li_open hI _ _)
  · skip
    exact absurd rfl hc554

set_option maxHeartbeats 4000000 in
set_option maxRecDepth 100000 in
theorem ls_8 {pg : Program} {l : Launch} {ev : Env} {s : State} {mi : MethodId} {below : List Frame} {meth : Method} {co : Code} {b L : Nat} {xs : Nat → Int32} {H : Heap} {locs : List Loc} {Q : State → Prop} {dC : Nat → ClassId} {dI : Nat → Nat → Nat} {h0 q0 h1 q1 : Nat} {cA cB : ClassId} {w0 : Cond} {i p q cx rd cl tt cd bx : Nat} {g : Nat → Nat} {ls : Array Slot} (hx : pg.tables.exec = Jvm.exec) (hb : co.code = code) (hml : co.maxLocals = 4) (hown : s.vm.findClass R_L = some mi.cls) (hts : ∀ w ∈ w0 :: al_w, w.before #[Value.ref b] s = true) (hX : va_X b L xs s s.heap) (hbl : b < s.heap.size) (hKX : va_K (dC, dI) classes [(cA, .long)] s) (hKM : va_K (dC, dI) classes [(cB, .long)] s) (hap : lw_ap s.heap.size h0 q0 h1 q1) (hL : L ≤ 2560) (hi : i + 5 ≤ L) (hI : LI p q cx rd cl tt cd bx g) (hl : lv_has ls 4 [(3, .int (nI i)), (2, .ref h1), (1, .ref h0), (0, .ref b)]) (hPX : va_P (dC, dI) classes [(h0, .inr (0, [.int (nI p), .int (nI q), .int (nI (p * q)), .long (lN (p * q * (p * q))), .long (lN (sp_f p q)), .long (lN (sp_inv p q)), .long (lN (sp_cex p q)), .int (nI cx), .int (nI rd), .int (nI cl), .long (lN tt), .int (nI (sp_cnt g 30)), .ref q0])), (q0, .inl (cA, 30, .inr (.inl (fun j => lN (g j)))))] H) (hPM : va_P (dC, dI) classes [(h1, .inr (1, [.long (lN (p * q)), .long (lN (p * q * (p * q))), .long (lN (sp_f p q)), .long (lN (sp_cex p q)), .int (nI bx), .int (nI cl), .int (nI cd), .int (nI rd), .ref q1])), (q1, .inl (cB, 30, .inr (.inl (fun j => lN (g j)))))] H) (hS : va_S (fun q => s.heap.size ≤ q) s.heap H locs) (kk : ∀ (p q cx rd cl tt cd bx : Nat) (g : Nat → Nat) (H : Heap) (locs : List Loc), va_P (dC, dI) classes [(h0, .inr (0, [.int (nI p), .int (nI q), .int (nI (p * q)), .long (lN (p * q * (p * q))), .long (lN (sp_f p q)), .long (lN (sp_inv p q)), .long (lN (sp_cex p q)), .int (nI cx), .int (nI rd), .int (nI cl), .long (lN tt), .int (nI (sp_cnt g 30)), .ref q0])), (q0, .inl (cA, 30, .inr (.inl (fun j => lN (g j)))))] H → va_P (dC, dI) classes [(h1, .inr (1, [.long (lN (p * q)), .long (lN (p * q * (p * q))), .long (lN (sp_f p q)), .long (lN (sp_cex p q)), .int (nI bx), .int (nI cl), .int (nI cd), .int (nI rd), .ref q1])), (q1, .inl (cB, 30, .inr (.inl (fun j => lN (g j)))))] H → va_S (fun q => s.heap.size ≤ q) s.heap H locs → LI p q cx rd cl tt cd bx g → W pg l ev room_1 s mi #[Value.ref b] below meth co H locs 4 82 Q (F0 mi 905 ls [])) : W pg l ev room_1 s mi #[Value.ref b] below meth co H locs 4 82 Q (F0 mi 559 ls []) := by
  refine lv_aload_n hx hb d_L_law_559 rfl (lv_at hl 2 rfl) ?_
  refine lv_aload_n hx hb d_L_law_560 rfl (lv_at hl 3 rfl) ?_
  refine lv_iload_n hx hb d_L_law_561 rfl (lv_at hl 0 rfl) ?_
  refine lv_iconst (v := nI 1) hx hb d_L_law_562 (by decide) ?_
  refine lv_iadd hx hb d_L_law_563 ?_
  refine wk_i (y := nI (i + 1)) (nI_add i 1) ?_
  refine va_sld hx hb hX hbl (Nat.not_le.mpr hbl) hS (vp_in_nI (by omega) (by omega)) d_L_law_564 ?_
  refine wk_i (y := xs (i + 1)) (by rw [nI_clamp (by omega)]) ?_
  refine lv_aload_n hx hb d_L_law_565 rfl (lv_at hl 3 rfl) ?_
  refine lv_iload_n hx hb d_L_law_566 rfl (lv_at hl 0 rfl) ?_
  refine lv_iconst (v := nI 2) hx hb d_L_law_567 (by decide) ?_
  refine lv_iadd hx hb d_L_law_568 ?_
  refine wk_i (y := nI (i + 2)) (nI_add i 2) ?_
  refine va_sld hx hb hX hbl (Nat.not_le.mpr hbl) hS (vp_in_nI (by omega) (by omega)) d_L_law_569 ?_
  refine wk_i (y := xs (i + 2)) (by rw [nI_clamp (by omega)]) ?_
  refine lv_i2l (v := Int32.toInt64 (xs (i + 2))) hx hb d_L_law_570 (rfl) ?_
  refine lv_bipush (v := nI 32) hx hb d_L_law_571 (by decide) ?_
  refine lv_lshl (v := (Int32.toInt64 (xs (i + 2))) <<< (Int32.toInt64 (nI 32) &&& 63)) hx hb d_L_law_573 (rfl) ?_
  refine lv_aload_n hx hb d_L_law_574 rfl (lv_at hl 3 rfl) ?_
  refine lv_iload_n hx hb d_L_law_575 rfl (lv_at hl 0 rfl) ?_
  refine lv_iconst (v := nI 3) hx hb d_L_law_576 (by decide) ?_
  refine lv_iadd hx hb d_L_law_577 ?_
  refine wk_i (y := nI (i + 3)) (nI_add i 3) ?_
  refine va_sld hx hb hX hbl (Nat.not_le.mpr hbl) hS (vp_in_nI (by omega) (by omega)) d_L_law_578 ?_
  refine wk_i (y := xs (i + 3)) (by rw [nI_clamp (by omega)]) ?_
  refine lv_i2l (v := Int32.toInt64 (xs (i + 3))) hx hb d_L_law_579 (rfl) ?_
  refine lv_ldc2 (v := lN 4294967295) hx hb hown (hts _ (al_m aw_t358)) d_L_law_580 ?_
  refine lv_land hx hb d_L_law_583 ?_
  refine lv_lor hx hb d_L_law_584 ?_
  refine wk_l (y := lb (xs (i + 2)) (xs (i + 3))) rfl ?_
  refine pu_l (va_runV (As := [.int (xs (i + 1)), .long (lb (xs (i + 2)) (xs (i + 3)))]) (rest := []) ⟨hx, hb, hml, hown, hts⟩ (c_X_choice l dC dI h0 q0 cA p q cx rd cl tt (sp_cnt g 30) g (xs (i + 1)) (lb (xs (i + 2)) (xs (i + 3))) hI.1 hI.2.1) (cwV 2 hts (al_V (k_X_choice) (aw_t139) (aw_t140) (aw_t141) (aw_t1)) rfl rfl rfl (by decide +kernel) ⟨Nat.le_of_ble_eq_true rfl, Nat.le_of_ble_eq_true rfl⟩) (pu_preV (q0 := 0) (ci := 0) hKX hPX rfl rfl) rfl rfl hl.1 rfl (lv_room (Nat.le_of_ble_eq_true rfl)) d_L_law_585 ⟨Nat.le_of_ble_eq_true rfl, Nat.le_of_ble_eq_true rfl⟩) hS (fun H locs hkp hS => ?_)
  have hPX := hkp _ _ _ hPX
  have hPM := hkp _ _ _ hPM
  refine lv_aload_n hx hb d_L_law_588 rfl (lv_at hl 1 rfl) ?_
  refine lv_aload_n hx hb d_L_law_589 rfl (lv_at hl 3 rfl) ?_
  refine lv_iload_n hx hb d_L_law_590 rfl (lv_at hl 0 rfl) ?_
  refine lv_iconst (v := nI 1) hx hb d_L_law_591 (by decide) ?_
  refine lv_iadd hx hb d_L_law_592 ?_
  refine wk_i (y := nI (i + 1)) (nI_add i 1) ?_
  refine va_sld hx hb hX hbl (Nat.not_le.mpr hbl) hS (vp_in_nI (by omega) (by omega)) d_L_law_593 ?_
  refine wk_i (y := xs (i + 1)) (by rw [nI_clamp (by omega)]) ?_
  refine lv_aload_n hx hb d_L_law_594 rfl (lv_at hl 3 rfl) ?_
  refine lv_iload_n hx hb d_L_law_595 rfl (lv_at hl 0 rfl) ?_
  refine lv_iconst (v := nI 2) hx hb d_L_law_596 (by decide) ?_
  refine lv_iadd hx hb d_L_law_597 ?_
  refine wk_i (y := nI (i + 2)) (nI_add i 2) ?_
  refine va_sld hx hb hX hbl (Nat.not_le.mpr hbl) hS (vp_in_nI (by omega) (by omega)) d_L_law_598 ?_
  refine wk_i (y := xs (i + 2)) (by rw [nI_clamp (by omega)]) ?_
  refine lv_i2l (v := Int32.toInt64 (xs (i + 2))) hx hb d_L_law_599 (rfl) ?_
  refine lv_bipush (v := nI 32) hx hb d_L_law_600 (by decide) ?_
  refine lv_lshl (v := (Int32.toInt64 (xs (i + 2))) <<< (Int32.toInt64 (nI 32) &&& 63)) hx hb d_L_law_602 (rfl) ?_
  refine lv_aload_n hx hb d_L_law_603 rfl (lv_at hl 3 rfl) ?_
  refine lv_iload_n hx hb d_L_law_604 rfl (lv_at hl 0 rfl) ?_
  refine lv_iconst (v := nI 3) hx hb d_L_law_605 (by decide) ?_
  refine lv_iadd hx hb d_L_law_606 ?_
  refine wk_i (y := nI (i + 3)) (nI_add i 3) ?_
  refine va_sld hx hb hX hbl (Nat.not_le.mpr hbl) hS (vp_in_nI (by omega) (by omega)) d_L_law_607 ?_
  refine wk_i (y := xs (i + 3)) (by rw [nI_clamp (by omega)]) ?_
  refine lv_i2l (v := Int32.toInt64 (xs (i + 3))) hx hb d_L_law_608 (rfl) ?_
  refine lv_ldc2 (v := lN 4294967295) hx hb hown (hts _ (al_m aw_t358)) d_L_law_609 ?_
  refine lv_land hx hb d_L_law_612 ?_
  refine lv_lor hx hb d_L_law_613 ?_
  refine wk_l (y := lb (xs (i + 2)) (xs (i + 3))) rfl ?_
  refine pu_l (va_runV (As := [.int (xs (i + 1)), .long (lb (xs (i + 2)) (xs (i + 3)))]) (rest := [.long (an_choice p q cx rd (xs (i + 1)) (lb (xs (i + 2)) (xs (i + 3))))]) ⟨hx, hb, hml, hown, hts⟩ (c_M_choice l dC dI h1 q1 cB p q bx cl cd rd g (xs (i + 1)) (lb (xs (i + 2)) (xs (i + 3))) cx hI.1 hI.2.1 hI.2.2.2.2.1 hI.2.2.2.2.2.1 hI.2.2.2.2.2.2 hI.2.2.1) (cwV 2 hts (al_V (k_M_choice) (aw_t303) (aw_t304) (aw_t305) (aw_t2)) rfl rfl rfl (by decide +kernel) ⟨Nat.le_of_ble_eq_true rfl, Nat.le_of_ble_eq_true rfl⟩) (pu_preV (q0 := 0) (ci := 1) hKM hPM rfl rfl) rfl rfl hl.1 rfl (lv_room (Nat.le_of_ble_eq_true rfl)) d_L_law_614 ⟨Nat.le_of_ble_eq_true rfl, Nat.le_of_ble_eq_true rfl⟩) hS (fun H locs hkp hS => ?_)
  have hPX := hkp _ _ _ hPX
  have hPM := hkp _ _ _ hPM
  refine W.lcmp hx hb d_L_law_617 ?_
  refine lv_if_eq (tgt := 905) hx hb d_L_law_618 (by decide) (fun hc618 => ?_) (fun hc618 => ?_)
  · skip
    rw [lg_cmp_eq] at hc618
    exact kk p q cx rd cl tt cd bx g H locs hPX hPM hS (hI)
  · skip
    rw [lg_cmp_eq] at hc618
    exact absurd rfl hc618

set_option maxHeartbeats 4000000 in
set_option maxRecDepth 100000 in
theorem ls_9 {pg : Program} {l : Launch} {ev : Env} {s : State} {mi : MethodId} {below : List Frame} {meth : Method} {co : Code} {b L : Nat} {xs : Nat → Int32} {H : Heap} {locs : List Loc} {Q : State → Prop} {dC : Nat → ClassId} {dI : Nat → Nat → Nat} {h0 q0 h1 q1 : Nat} {cA cB : ClassId} {w0 : Cond} {i p q cx rd cl tt cd bx : Nat} {g : Nat → Nat} {ls : Array Slot} (hx : pg.tables.exec = Jvm.exec) (hb : co.code = code) (hml : co.maxLocals = 4) (hown : s.vm.findClass R_L = some mi.cls) (hts : ∀ w ∈ w0 :: al_w, w.before #[Value.ref b] s = true) (hX : va_X b L xs s s.heap) (hbl : b < s.heap.size) (hKX : va_K (dC, dI) classes [(cA, .long)] s) (hKM : va_K (dC, dI) classes [(cB, .long)] s) (hap : lw_ap s.heap.size h0 q0 h1 q1) (hL : L ≤ 2560) (hi : i + 5 ≤ L) (hI : LI p q cx rd cl tt cd bx g) (hl : lv_has ls 4 [(3, .int (nI i)), (2, .ref h1), (1, .ref h0), (0, .ref b)]) (hPX : va_P (dC, dI) classes [(h0, .inr (0, [.int (nI p), .int (nI q), .int (nI (p * q)), .long (lN (p * q * (p * q))), .long (lN (sp_f p q)), .long (lN (sp_inv p q)), .long (lN (sp_cex p q)), .int (nI cx), .int (nI rd), .int (nI cl), .long (lN tt), .int (nI (sp_cnt g 30)), .ref q0])), (q0, .inl (cA, 30, .inr (.inl (fun j => lN (g j)))))] H) (hPM : va_P (dC, dI) classes [(h1, .inr (1, [.long (lN (p * q)), .long (lN (p * q * (p * q))), .long (lN (sp_f p q)), .long (lN (sp_cex p q)), .int (nI bx), .int (nI cl), .int (nI cd), .int (nI rd), .ref q1])), (q1, .inl (cB, 30, .inr (.inl (fun j => lN (g j)))))] H) (hS : va_S (fun q => s.heap.size ≤ q) s.heap H locs) (kk : ∀ (p q cx rd cl tt cd bx : Nat) (g : Nat → Nat) (H : Heap) (locs : List Loc), va_P (dC, dI) classes [(h0, .inr (0, [.int (nI p), .int (nI q), .int (nI (p * q)), .long (lN (p * q * (p * q))), .long (lN (sp_f p q)), .long (lN (sp_inv p q)), .long (lN (sp_cex p q)), .int (nI cx), .int (nI rd), .int (nI cl), .long (lN tt), .int (nI (sp_cnt g 30)), .ref q0])), (q0, .inl (cA, 30, .inr (.inl (fun j => lN (g j)))))] H → va_P (dC, dI) classes [(h1, .inr (1, [.long (lN (p * q)), .long (lN (p * q * (p * q))), .long (lN (sp_f p q)), .long (lN (sp_cex p q)), .int (nI bx), .int (nI cl), .int (nI cd), .int (nI rd), .ref q1])), (q1, .inl (cB, 30, .inr (.inl (fun j => lN (g j)))))] H → va_S (fun q => s.heap.size ≤ q) s.heap H locs → LI p q cx rd cl tt cd bx g → W pg l ev room_1 s mi #[Value.ref b] below meth co H locs 4 82 Q (F0 mi 905 ls [])) : W pg l ev room_1 s mi #[Value.ref b] below meth co H locs 4 82 Q (F0 mi 623 ls []) := by
  refine lv_aload_n hx hb d_L_law_623 rfl (lv_at hl 2 rfl) ?_
  refine lv_aload_n hx hb d_L_law_624 rfl (lv_at hl 3 rfl) ?_
  refine lv_iload_n hx hb d_L_law_625 rfl (lv_at hl 0 rfl) ?_
  refine lv_iconst (v := nI 1) hx hb d_L_law_626 (by decide) ?_
  refine lv_iadd hx hb d_L_law_627 ?_
  refine wk_i (y := nI (i + 1)) (nI_add i 1) ?_
  refine va_sld hx hb hX hbl (Nat.not_le.mpr hbl) hS (vp_in_nI (by omega) (by omega)) d_L_law_628 ?_
  refine wk_i (y := xs (i + 1)) (by rw [nI_clamp (by omega)]) ?_
  refine lv_aload_n hx hb d_L_law_629 rfl (lv_at hl 3 rfl) ?_
  refine lv_iload_n hx hb d_L_law_630 rfl (lv_at hl 0 rfl) ?_
  refine lv_iconst (v := nI 2) hx hb d_L_law_631 (by decide) ?_
  refine lv_iadd hx hb d_L_law_632 ?_
  refine wk_i (y := nI (i + 2)) (nI_add i 2) ?_
  refine va_sld hx hb hX hbl (Nat.not_le.mpr hbl) hS (vp_in_nI (by omega) (by omega)) d_L_law_633 ?_
  refine wk_i (y := xs (i + 2)) (by rw [nI_clamp (by omega)]) ?_
  refine lv_i2l (v := Int32.toInt64 (xs (i + 2))) hx hb d_L_law_634 (rfl) ?_
  refine lv_bipush (v := nI 32) hx hb d_L_law_635 (by decide) ?_
  refine lv_lshl (v := (Int32.toInt64 (xs (i + 2))) <<< (Int32.toInt64 (nI 32) &&& 63)) hx hb d_L_law_637 (rfl) ?_
  refine lv_aload_n hx hb d_L_law_638 rfl (lv_at hl 3 rfl) ?_
  refine lv_iload_n hx hb d_L_law_639 rfl (lv_at hl 0 rfl) ?_
  refine lv_iconst (v := nI 3) hx hb d_L_law_640 (by decide) ?_
  refine lv_iadd hx hb d_L_law_641 ?_
  refine wk_i (y := nI (i + 3)) (nI_add i 3) ?_
  refine va_sld hx hb hX hbl (Nat.not_le.mpr hbl) hS (vp_in_nI (by omega) (by omega)) d_L_law_642 ?_
  refine wk_i (y := xs (i + 3)) (by rw [nI_clamp (by omega)]) ?_
  refine lv_i2l (v := Int32.toInt64 (xs (i + 3))) hx hb d_L_law_643 (rfl) ?_
  refine lv_ldc2 (v := lN 4294967295) hx hb hown (hts _ (al_m aw_t358)) d_L_law_644 ?_
  refine lv_land hx hb d_L_law_647 ?_
  refine lv_lor hx hb d_L_law_648 ?_
  refine wk_l (y := lb (xs (i + 2)) (xs (i + 3))) rfl ?_
  refine mu_i (wo := _) (va_runV (As := [.int (xs (i + 1)), .long (lb (xs (i + 2)) (xs (i + 3)))]) (rest := []) ⟨hx, hb, hml, hown, hts⟩ (c_X_cast l dC dI h0 q0 cA p q cx rd cl tt (sp_cnt g 30) g (xs (i + 1)) (lb (xs (i + 2)) (xs (i + 3))) hI.1 hI.2.1 hI.2.2.1 rfl hap.2.2.2.2.1) (cwV 2 hts (al_V (k_X_cast) (aw_t156) (aw_t157) (aw_t158) (aw_t1)) rfl rfl rfl (by decide +kernel) ⟨Nat.le_of_ble_eq_true rfl, Nat.le_of_ble_eq_true rfl⟩) (pu_preV (q0 := 0) (ci := 0) hKX hPX rfl rfl) rfl rfl hl.1 rfl (lv_room (Nat.le_of_ble_eq_true rfl)) d_L_law_649 ⟨Nat.le_of_ble_eq_true rfl, Nat.le_of_ble_eq_true rfl⟩) hS hap.1 hap.2.1 (mu_o2 ⟨Ne.symm hap.2.2.2.2.2.1, Ne.symm hap.2.2.2.2.2.2.2.1⟩ ⟨Ne.symm hap.2.2.2.2.2.2.1, Ne.symm hap.2.2.2.2.2.2.2.2.1⟩) hPM (fun H locs hPX hPM hS => ?_)
  refine lv_aload_n hx hb d_L_law_652 rfl (lv_at hl 1 rfl) ?_
  refine lv_aload_n hx hb d_L_law_653 rfl (lv_at hl 3 rfl) ?_
  refine lv_iload_n hx hb d_L_law_654 rfl (lv_at hl 0 rfl) ?_
  refine lv_iconst (v := nI 1) hx hb d_L_law_655 (by decide) ?_
  refine lv_iadd hx hb d_L_law_656 ?_
  refine wk_i (y := nI (i + 1)) (nI_add i 1) ?_
  refine va_sld hx hb hX hbl (Nat.not_le.mpr hbl) hS (vp_in_nI (by omega) (by omega)) d_L_law_657 ?_
  refine wk_i (y := xs (i + 1)) (by rw [nI_clamp (by omega)]) ?_
  refine lv_aload_n hx hb d_L_law_658 rfl (lv_at hl 3 rfl) ?_
  refine lv_iload_n hx hb d_L_law_659 rfl (lv_at hl 0 rfl) ?_
  refine lv_iconst (v := nI 2) hx hb d_L_law_660 (by decide) ?_
  refine lv_iadd hx hb d_L_law_661 ?_
  refine wk_i (y := nI (i + 2)) (nI_add i 2) ?_
  refine va_sld hx hb hX hbl (Nat.not_le.mpr hbl) hS (vp_in_nI (by omega) (by omega)) d_L_law_662 ?_
  refine wk_i (y := xs (i + 2)) (by rw [nI_clamp (by omega)]) ?_
  refine lv_i2l (v := Int32.toInt64 (xs (i + 2))) hx hb d_L_law_663 (rfl) ?_
  refine lv_bipush (v := nI 32) hx hb d_L_law_664 (by decide) ?_
  refine lv_lshl (v := (Int32.toInt64 (xs (i + 2))) <<< (Int32.toInt64 (nI 32) &&& 63)) hx hb d_L_law_666 (rfl) ?_
  refine lv_aload_n hx hb d_L_law_667 rfl (lv_at hl 3 rfl) ?_
  refine lv_iload_n hx hb d_L_law_668 rfl (lv_at hl 0 rfl) ?_
  refine lv_iconst (v := nI 3) hx hb d_L_law_669 (by decide) ?_
  refine lv_iadd hx hb d_L_law_670 ?_
  refine wk_i (y := nI (i + 3)) (nI_add i 3) ?_
  refine va_sld hx hb hX hbl (Nat.not_le.mpr hbl) hS (vp_in_nI (by omega) (by omega)) d_L_law_671 ?_
  refine wk_i (y := xs (i + 3)) (by rw [nI_clamp (by omega)]) ?_
  refine lv_i2l (v := Int32.toInt64 (xs (i + 3))) hx hb d_L_law_672 (rfl) ?_
  refine lv_ldc2 (v := lN 4294967295) hx hb hown (hts _ (al_m aw_t358)) d_L_law_673 ?_
  refine lv_land hx hb d_L_law_676 ?_
  refine lv_lor hx hb d_L_law_677 ?_
  refine wk_l (y := lb (xs (i + 2)) (xs (i + 3))) rfl ?_
  refine mu_i (wo := _) (va_runV (As := [.int (xs (i + 1)), .long (lb (xs (i + 2)) (xs (i + 3)))]) (rest := [.int (an_cast p q cx rd cl g (xs (i + 1)) (lb (xs (i + 2)) (xs (i + 3))))]) ⟨hx, hb, hml, hown, hts⟩ (c_M_cast l dC dI h1 q1 cB p q bx cl cd rd g (xs (i + 1)) (lb (xs (i + 2)) (xs (i + 3))) cx hI.1 hI.2.1 hI.2.2.2.2.1 hI.2.2.2.2.2.1 hI.2.2.1 hap.2.2.2.2.2.2.2.2.2) (cwV 2 hts (al_V (k_M_cast) (aw_t312) (aw_t313) (aw_t314) (aw_t2)) rfl rfl rfl (by decide +kernel) ⟨Nat.le_of_ble_eq_true rfl, Nat.le_of_ble_eq_true rfl⟩) (pu_preV (q0 := 0) (ci := 1) hKM hPM rfl rfl) rfl rfl hl.1 rfl (lv_room (Nat.le_of_ble_eq_true rfl)) d_L_law_678 ⟨Nat.le_of_ble_eq_true rfl, Nat.le_of_ble_eq_true rfl⟩) hS hap.2.2.1 hap.2.2.2.1 (mu_o2 ⟨hap.2.2.2.2.2.1, hap.2.2.2.2.2.2.1⟩ ⟨hap.2.2.2.2.2.2.2.1, hap.2.2.2.2.2.2.2.2.1⟩) hPX (fun H locs hPM hPX hS => ?_)
  refine lv_icmp_eq (tgt := 905) hx hb d_L_law_681 (by decide) (fun hc681 => ?_) (fun hc681 => ?_)
  · skip
    exact kk p q cx rd cl tt cd bx (nx_cast p q cx rd cl g (xs (i + 1)) (lb (xs (i + 2)) (xs (i + 3)))) H locs hPX hPM hS (li_cast hI _ _)
  · skip
    exact absurd rfl hc681

set_option maxHeartbeats 4000000 in
set_option maxRecDepth 100000 in
theorem ls_10 {pg : Program} {l : Launch} {ev : Env} {s : State} {mi : MethodId} {below : List Frame} {meth : Method} {co : Code} {b L : Nat} {xs : Nat → Int32} {H : Heap} {locs : List Loc} {Q : State → Prop} {dC : Nat → ClassId} {dI : Nat → Nat → Nat} {h0 q0 h1 q1 : Nat} {cA cB : ClassId} {w0 : Cond} {i p q cx rd cl tt cd bx : Nat} {g : Nat → Nat} {ls : Array Slot} (hx : pg.tables.exec = Jvm.exec) (hb : co.code = code) (hml : co.maxLocals = 4) (hown : s.vm.findClass R_L = some mi.cls) (hts : ∀ w ∈ w0 :: al_w, w.before #[Value.ref b] s = true) (hX : va_X b L xs s s.heap) (hbl : b < s.heap.size) (hKX : va_K (dC, dI) classes [(cA, .long)] s) (hKM : va_K (dC, dI) classes [(cB, .long)] s) (hap : lw_ap s.heap.size h0 q0 h1 q1) (hL : L ≤ 2560) (hi : i + 5 ≤ L) (hI : LI p q cx rd cl tt cd bx g) (hl : lv_has ls 4 [(3, .int (nI i)), (2, .ref h1), (1, .ref h0), (0, .ref b)]) (hPX : va_P (dC, dI) classes [(h0, .inr (0, [.int (nI p), .int (nI q), .int (nI (p * q)), .long (lN (p * q * (p * q))), .long (lN (sp_f p q)), .long (lN (sp_inv p q)), .long (lN (sp_cex p q)), .int (nI cx), .int (nI rd), .int (nI cl), .long (lN tt), .int (nI (sp_cnt g 30)), .ref q0])), (q0, .inl (cA, 30, .inr (.inl (fun j => lN (g j)))))] H) (hPM : va_P (dC, dI) classes [(h1, .inr (1, [.long (lN (p * q)), .long (lN (p * q * (p * q))), .long (lN (sp_f p q)), .long (lN (sp_cex p q)), .int (nI bx), .int (nI cl), .int (nI cd), .int (nI rd), .ref q1])), (q1, .inl (cB, 30, .inr (.inl (fun j => lN (g j)))))] H) (hS : va_S (fun q => s.heap.size ≤ q) s.heap H locs) (kk : ∀ (p q cx rd cl tt cd bx : Nat) (g : Nat → Nat) (H : Heap) (locs : List Loc), va_P (dC, dI) classes [(h0, .inr (0, [.int (nI p), .int (nI q), .int (nI (p * q)), .long (lN (p * q * (p * q))), .long (lN (sp_f p q)), .long (lN (sp_inv p q)), .long (lN (sp_cex p q)), .int (nI cx), .int (nI rd), .int (nI cl), .long (lN tt), .int (nI (sp_cnt g 30)), .ref q0])), (q0, .inl (cA, 30, .inr (.inl (fun j => lN (g j)))))] H → va_P (dC, dI) classes [(h1, .inr (1, [.long (lN (p * q)), .long (lN (p * q * (p * q))), .long (lN (sp_f p q)), .long (lN (sp_cex p q)), .int (nI bx), .int (nI cl), .int (nI cd), .int (nI rd), .ref q1])), (q1, .inl (cB, 30, .inr (.inl (fun j => lN (g j)))))] H → va_S (fun q => s.heap.size ≤ q) s.heap H locs → LI p q cx rd cl tt cd bx g → W pg l ev room_1 s mi #[Value.ref b] below meth co H locs 4 82 Q (F0 mi 905 ls [])) : W pg l ev room_1 s mi #[Value.ref b] below meth co H locs 4 82 Q (F0 mi 686 ls []) := by
  refine lv_aload_n hx hb d_L_law_686 rfl (lv_at hl 2 rfl) ?_
  refine lv_aload_n hx hb d_L_law_687 rfl (lv_at hl 3 rfl) ?_
  refine lv_iload_n hx hb d_L_law_688 rfl (lv_at hl 0 rfl) ?_
  refine lv_iconst (v := nI 1) hx hb d_L_law_689 (by decide) ?_
  refine lv_iadd hx hb d_L_law_690 ?_
  refine wk_i (y := nI (i + 1)) (nI_add i 1) ?_
  refine va_sld hx hb hX hbl (Nat.not_le.mpr hbl) hS (vp_in_nI (by omega) (by omega)) d_L_law_691 ?_
  refine wk_i (y := xs (i + 1)) (by rw [nI_clamp (by omega)]) ?_
  refine mu_l (wo := _) (va_runV (As := [.int (xs (i + 1))]) (rest := []) ⟨hx, hb, hml, hown, hts⟩ (c_X_withdraw l dC dI h0 q0 cA p q cx rd cl tt (sp_cnt g 30) g (xs (i + 1)) hI.1 hI.2.2.1 rfl hap.2.2.2.2.1) (cwV 1 hts (al_V (k_X_withdraw) (aw_t163) (aw_t164) (aw_t165) (aw_t1)) rfl rfl rfl (by decide +kernel) ⟨Nat.le_of_ble_eq_true rfl, Nat.le_of_ble_eq_true rfl⟩) (pu_preV (q0 := 0) (ci := 0) hKX hPX rfl rfl) rfl rfl hl.1 rfl (lv_room (Nat.le_of_ble_eq_true rfl)) d_L_law_692 ⟨Nat.le_of_ble_eq_true rfl, Nat.le_of_ble_eq_true rfl⟩) hS hap.1 hap.2.1 (mu_o2 ⟨Ne.symm hap.2.2.2.2.2.1, Ne.symm hap.2.2.2.2.2.2.2.1⟩ ⟨Ne.symm hap.2.2.2.2.2.2.1, Ne.symm hap.2.2.2.2.2.2.2.2.1⟩) hPM (fun H locs hPX hPM hS => ?_)
  refine lv_aload_n hx hb d_L_law_695 rfl (lv_at hl 1 rfl) ?_
  refine lv_aload_n hx hb d_L_law_696 rfl (lv_at hl 3 rfl) ?_
  refine lv_iload_n hx hb d_L_law_697 rfl (lv_at hl 0 rfl) ?_
  refine lv_iconst (v := nI 1) hx hb d_L_law_698 (by decide) ?_
  refine lv_iadd hx hb d_L_law_699 ?_
  refine wk_i (y := nI (i + 1)) (nI_add i 1) ?_
  refine va_sld hx hb hX hbl (Nat.not_le.mpr hbl) hS (vp_in_nI (by omega) (by omega)) d_L_law_700 ?_
  refine wk_i (y := xs (i + 1)) (by rw [nI_clamp (by omega)]) ?_
  refine mu_l (wo := _) (va_runV (As := [.int (xs (i + 1))]) (rest := [.long (an_withdraw cx cl g (xs (i + 1)))]) ⟨hx, hb, hml, hown, hts⟩ (c_M_withdraw l dC dI h1 q1 cB p q bx cl cd rd g (xs (i + 1)) cx hI.1 hI.2.1 hI.2.2.2.2.1 hI.2.2.2.2.2.1 hI.2.2.1 hap.2.2.2.2.2.2.2.2.2) (cwV 1 hts (al_V (k_M_withdraw) (aw_t320) (aw_t321) (aw_t322) (aw_t2)) rfl rfl rfl (by decide +kernel) ⟨Nat.le_of_ble_eq_true rfl, Nat.le_of_ble_eq_true rfl⟩) (pu_preV (q0 := 0) (ci := 1) hKM hPM rfl rfl) rfl rfl hl.1 rfl (lv_room (Nat.le_of_ble_eq_true rfl)) d_L_law_701 ⟨Nat.le_of_ble_eq_true rfl, Nat.le_of_ble_eq_true rfl⟩) hS hap.2.2.1 hap.2.2.2.1 (mu_o2 ⟨hap.2.2.2.2.2.1, hap.2.2.2.2.2.2.1⟩ ⟨hap.2.2.2.2.2.2.2.1, hap.2.2.2.2.2.2.2.2.1⟩) hPX (fun H locs hPM hPX hS => ?_)
  refine W.lcmp hx hb d_L_law_704 ?_
  refine lv_if_eq (tgt := 905) hx hb d_L_law_705 (by decide) (fun hc705 => ?_) (fun hc705 => ?_)
  · skip
    rw [lg_cmp_eq] at hc705
    exact kk p q cx rd cl tt cd bx (nx_withdraw cx cl g (xs (i + 1))) H locs hPX hPM hS (li_withdraw hI _)
  · skip
    rw [lg_cmp_eq] at hc705
    exact absurd rfl hc705

set_option maxHeartbeats 4000000 in
set_option maxRecDepth 100000 in
theorem ls_11 {pg : Program} {l : Launch} {ev : Env} {s : State} {mi : MethodId} {below : List Frame} {meth : Method} {co : Code} {b L : Nat} {xs : Nat → Int32} {H : Heap} {locs : List Loc} {Q : State → Prop} {dC : Nat → ClassId} {dI : Nat → Nat → Nat} {h0 q0 h1 q1 : Nat} {cA cB : ClassId} {w0 : Cond} {i p q cx rd cl tt cd bx : Nat} {g : Nat → Nat} {ls : Array Slot} (hx : pg.tables.exec = Jvm.exec) (hb : co.code = code) (hml : co.maxLocals = 4) (hown : s.vm.findClass R_L = some mi.cls) (hts : ∀ w ∈ w0 :: al_w, w.before #[Value.ref b] s = true) (hX : va_X b L xs s s.heap) (hbl : b < s.heap.size) (hKX : va_K (dC, dI) classes [(cA, .long)] s) (hKM : va_K (dC, dI) classes [(cB, .long)] s) (hap : lw_ap s.heap.size h0 q0 h1 q1) (hL : L ≤ 2560) (hi : i + 5 ≤ L) (hI : LI p q cx rd cl tt cd bx g) (hl : lv_has ls 4 [(3, .int (nI i)), (2, .ref h1), (1, .ref h0), (0, .ref b)]) (hPX : va_P (dC, dI) classes [(h0, .inr (0, [.int (nI p), .int (nI q), .int (nI (p * q)), .long (lN (p * q * (p * q))), .long (lN (sp_f p q)), .long (lN (sp_inv p q)), .long (lN (sp_cex p q)), .int (nI cx), .int (nI rd), .int (nI cl), .long (lN tt), .int (nI (sp_cnt g 30)), .ref q0])), (q0, .inl (cA, 30, .inr (.inl (fun j => lN (g j)))))] H) (hPM : va_P (dC, dI) classes [(h1, .inr (1, [.long (lN (p * q)), .long (lN (p * q * (p * q))), .long (lN (sp_f p q)), .long (lN (sp_cex p q)), .int (nI bx), .int (nI cl), .int (nI cd), .int (nI rd), .ref q1])), (q1, .inl (cB, 30, .inr (.inl (fun j => lN (g j)))))] H) (hS : va_S (fun q => s.heap.size ≤ q) s.heap H locs) (kk : ∀ (p q cx rd cl tt cd bx : Nat) (g : Nat → Nat) (H : Heap) (locs : List Loc), va_P (dC, dI) classes [(h0, .inr (0, [.int (nI p), .int (nI q), .int (nI (p * q)), .long (lN (p * q * (p * q))), .long (lN (sp_f p q)), .long (lN (sp_inv p q)), .long (lN (sp_cex p q)), .int (nI cx), .int (nI rd), .int (nI cl), .long (lN tt), .int (nI (sp_cnt g 30)), .ref q0])), (q0, .inl (cA, 30, .inr (.inl (fun j => lN (g j)))))] H → va_P (dC, dI) classes [(h1, .inr (1, [.long (lN (p * q)), .long (lN (p * q * (p * q))), .long (lN (sp_f p q)), .long (lN (sp_cex p q)), .int (nI bx), .int (nI cl), .int (nI cd), .int (nI rd), .ref q1])), (q1, .inl (cB, 30, .inr (.inl (fun j => lN (g j)))))] H → va_S (fun q => s.heap.size ≤ q) s.heap H locs → LI p q cx rd cl tt cd bx g → W pg l ev room_1 s mi #[Value.ref b] below meth co H locs 4 82 Q (F0 mi 905 ls [])) : W pg l ev room_1 s mi #[Value.ref b] below meth co H locs 4 82 Q (F0 mi 710 ls []) := by
  refine lv_aload_n hx hb d_L_law_710 rfl (lv_at hl 2 rfl) ?_
  refine lv_aload_n hx hb d_L_law_711 rfl (lv_at hl 3 rfl) ?_
  refine lv_iload_n hx hb d_L_law_712 rfl (lv_at hl 0 rfl) ?_
  refine lv_iconst (v := nI 1) hx hb d_L_law_713 (by decide) ?_
  refine lv_iadd hx hb d_L_law_714 ?_
  refine wk_i (y := nI (i + 1)) (nI_add i 1) ?_
  refine va_sld hx hb hX hbl (Nat.not_le.mpr hbl) hS (vp_in_nI (by omega) (by omega)) d_L_law_715 ?_
  refine wk_i (y := xs (i + 1)) (by rw [nI_clamp (by omega)]) ?_
  refine pu_l (va_runV (As := [.int (xs (i + 1))]) (rest := []) ⟨hx, hb, hml, hown, hts⟩ (c_X_ballot l dC dI h0 q0 cA p q cx rd cl tt (sp_cnt g 30) g (xs (i + 1)) hI.1 hI.2.1) (cwV 1 hts (al_V (k_X_ballot) (aw_t169) (aw_t170) (aw_t171) (aw_t1)) rfl rfl rfl (by decide +kernel) ⟨Nat.le_of_ble_eq_true rfl, Nat.le_of_ble_eq_true rfl⟩) (pu_preV (q0 := 0) (ci := 0) hKX hPX rfl rfl) rfl rfl hl.1 rfl (lv_room (Nat.le_of_ble_eq_true rfl)) d_L_law_716 ⟨Nat.le_of_ble_eq_true rfl, Nat.le_of_ble_eq_true rfl⟩) hS (fun H locs hkp hS => ?_)
  have hPX := hkp _ _ _ hPX
  have hPM := hkp _ _ _ hPM
  refine lv_aload_n hx hb d_L_law_719 rfl (lv_at hl 1 rfl) ?_
  refine lv_aload_n hx hb d_L_law_720 rfl (lv_at hl 3 rfl) ?_
  refine lv_iload_n hx hb d_L_law_721 rfl (lv_at hl 0 rfl) ?_
  refine lv_iconst (v := nI 1) hx hb d_L_law_722 (by decide) ?_
  refine lv_iadd hx hb d_L_law_723 ?_
  refine wk_i (y := nI (i + 1)) (nI_add i 1) ?_
  refine va_sld hx hb hX hbl (Nat.not_le.mpr hbl) hS (vp_in_nI (by omega) (by omega)) d_L_law_724 ?_
  refine wk_i (y := xs (i + 1)) (by rw [nI_clamp (by omega)]) ?_
  refine pu_l (va_runV (As := [.int (xs (i + 1))]) (rest := [.long (an_ballot cx g (xs (i + 1)))]) ⟨hx, hb, hml, hown, hts⟩ (c_M_ballot l dC dI h1 q1 cB p q bx cl cd rd g (xs (i + 1)) cx hI.1 hI.2.1 hI.2.2.2.2.1 hI.2.2.2.2.2.1 hI.2.2.2.2.2.2 hI.2.2.1) (cwV 1 hts (al_V (k_M_ballot) (aw_t326) (aw_t327) (aw_t328) (aw_t2)) rfl rfl rfl (by decide +kernel) ⟨Nat.le_of_ble_eq_true rfl, Nat.le_of_ble_eq_true rfl⟩) (pu_preV (q0 := 0) (ci := 1) hKM hPM rfl rfl) rfl rfl hl.1 rfl (lv_room (Nat.le_of_ble_eq_true rfl)) d_L_law_725 ⟨Nat.le_of_ble_eq_true rfl, Nat.le_of_ble_eq_true rfl⟩) hS (fun H locs hkp hS => ?_)
  have hPX := hkp _ _ _ hPX
  have hPM := hkp _ _ _ hPM
  refine W.lcmp hx hb d_L_law_728 ?_
  refine lv_if_eq (tgt := 905) hx hb d_L_law_729 (by decide) (fun hc729 => ?_) (fun hc729 => ?_)
  · skip
    rw [lg_cmp_eq] at hc729
    exact kk p q cx rd cl tt cd bx g H locs hPX hPM hS (hI)
  · skip
    rw [lg_cmp_eq] at hc729
    exact absurd rfl hc729
