set_option maxHeartbeats 4000000 in
set_option maxRecDepth 100000 in
theorem ls_0 {pg : Program} {l : Launch} {ev : Env} {s : State} {mi : MethodId} {below : List Frame} {meth : Method} {co : Code} {b L : Nat} {xs : Nat → Int32} {H : Heap} {locs : List Loc} {Q : State → Prop} {dC : Nat → ClassId} {dI : Nat → Nat → Nat} {h0 q0 h1 q1 : Nat} {cA cB : ClassId} {w0 : Cond} {i p q cx rd cl tt cd bx : Nat} {g : Nat → Nat} {ls : Array Slot} (hx : pg.tables.exec = Jvm.exec) (hb : co.code = code) (hml : co.maxLocals = 4) (hown : s.vm.findClass R_L = some mi.cls) (hts : ∀ w ∈ w0 :: al_w, w.before #[Value.ref b] s = true) (hX : va_X b L xs s s.heap) (hbl : b < s.heap.size) (hKX : va_K (dC, dI) classes [(cA, .long)] s) (hKM : va_K (dC, dI) classes [(cB, .long)] s) (hap : lw_ap s.heap.size h0 q0 h1 q1) (hL : L ≤ 2560) (hi : i + 5 ≤ L) (hI : LI p q cx rd cl tt cd bx g) (hl : lv_has ls 4 [(3, .int (nI i)), (2, .ref h1), (1, .ref h0), (0, .ref b)]) (hPX : va_P (dC, dI) classes [(h0, .inr (0, [.int (nI p), .int (nI q), .int (nI (p * q)), .long (lN (p * q * (p * q))), .long (lN (sp_f p q)), .long (lN (sp_inv p q)), .long (lN (sp_cex p q)), .int (nI cx), .int (nI rd), .int (nI cl), .long (lN tt), .int (nI (sp_cnt g 30)), .ref q0])), (q0, .inl (cA, 30, .inr (.inl (fun j => lN (g j)))))] H) (hPM : va_P (dC, dI) classes [(h1, .inr (1, [.long (lN (p * q)), .long (lN (p * q * (p * q))), .long (lN (sp_f p q)), .long (lN (sp_cex p q)), .int (nI bx), .int (nI cl), .int (nI cd), .int (nI rd), .ref q1])), (q1, .inl (cB, 30, .inr (.inl (fun j => lN (g j)))))] H) (hS : va_S (fun q => s.heap.size ≤ q) s.heap H locs) (kk : ∀ (p q cx rd cl tt cd bx : Nat) (g : Nat → Nat) (H : Heap) (locs : List Loc), va_P (dC, dI) classes [(h0, .inr (0, [.int (nI p), .int (nI q), .int (nI (p * q)), .long (lN (p * q * (p * q))), .long (lN (sp_f p q)), .long (lN (sp_inv p q)), .long (lN (sp_cex p q)), .int (nI cx), .int (nI rd), .int (nI cl), .long (lN tt), .int (nI (sp_cnt g 30)), .ref q0])), (q0, .inl (cA, 30, .inr (.inl (fun j => lN (g j)))))] H → va_P (dC, dI) classes [(h1, .inr (1, [.long (lN (p * q)), .long (lN (p * q * (p * q))), .long (lN (sp_f p q)), .long (lN (sp_cex p q)), .int (nI bx), .int (nI cl), .int (nI cd), .int (nI rd), .ref q1])), (q1, .inl (cB, 30, .inr (.inl (fun j => lN (g j)))))] H → va_S (fun q => s.heap.size ≤ q) s.heap H locs → LI p q cx rd cl tt cd bx g → W pg l ev room_1 s mi #[Value.ref b] below meth co H locs 4 82 Q (F0 mi 905 ls [])) : W pg l ev room_1 s mi #[Value.ref b] below meth co H locs 4 82 Q (F0 mi 120 ls []) := by
  refine lv_aload_n hx hb d_L_law_120 rfl (lv_at hl 2 rfl) ?_
  refine lv_aload_n hx hb d_L_law_121 rfl (lv_at hl 3 rfl) ?_
  refine lv_iload_n hx hb d_L_law_122 rfl (lv_at hl 0 rfl) ?_
  refine lv_iconst (v := nI 1) hx hb d_L_law_123 (by decide) ?_
  refine lv_iadd hx hb d_L_law_124 ?_
  refine wk_i (y := nI (i + 1)) (nI_add i 1) ?_
  refine va_sld hx hb hX hbl (Nat.not_le.mpr hbl) hS (vp_in_nI (by omega) (by omega)) d_L_law_125 ?_
  refine wk_i (y := xs (i + 1)) (by rw [nI_clamp (by omega)]) ?_
  refine lv_aload_n hx hb d_L_law_126 rfl (lv_at hl 3 rfl) ?_
  refine lv_iload_n hx hb d_L_law_127 rfl (lv_at hl 0 rfl) ?_
  refine lv_iconst (v := nI 2) hx hb d_L_law_128 (by decide) ?_
  refine lv_iadd hx hb d_L_law_129 ?_
  refine wk_i (y := nI (i + 2)) (nI_add i 2) ?_
  refine va_sld hx hb hX hbl (Nat.not_le.mpr hbl) hS (vp_in_nI (by omega) (by omega)) d_L_law_130 ?_
  refine wk_i (y := xs (i + 2)) (by rw [nI_clamp (by omega)]) ?_
  refine mu_i (wo := _) (va_runV (As := [.int (xs (i + 1)), .int (xs (i + 2))]) (rest := []) ⟨hx, hb, hml, hown, hts⟩ (c_X_key l dC dI h0 q0 cA p q cx rd cl tt (sp_cnt g 30) g (xs (i + 1)) (xs (i + 2)) hI.1 hap.2.2.2.2.1) (cwV 2 hts (al_V (k_X_key) (aw_t54) (aw_t55) (aw_t56) (aw_t1)) rfl rfl rfl (by decide +kernel) ⟨Nat.le_of_ble_eq_true rfl, Nat.le_of_ble_eq_true rfl⟩) (pu_preV (q0 := 0) (ci := 0) hKX hPX rfl rfl) rfl rfl hl.1 rfl (lv_room (Nat.le_of_ble_eq_true rfl)) d_L_law_131 ⟨Nat.le_of_ble_eq_true rfl, Nat.le_of_ble_eq_true rfl⟩) hS hap.1 hap.2.1 (mu_o2 ⟨Ne.symm hap.2.2.2.2.2.1, Ne.symm hap.2.2.2.2.2.2.2.1⟩ ⟨Ne.symm hap.2.2.2.2.2.2.1, Ne.symm hap.2.2.2.2.2.2.2.2.1⟩) hPM (fun H locs hPX hPM hS => ?_)
  refine lv_aload_n hx hb d_L_law_134 rfl (lv_at hl 1 rfl) ?_
  refine lv_aload_n hx hb d_L_law_135 rfl (lv_at hl 3 rfl) ?_
  refine lv_iload_n hx hb d_L_law_136 rfl (lv_at hl 0 rfl) ?_
  refine lv_iconst (v := nI 1) hx hb d_L_law_137 (by decide) ?_
  refine lv_iadd hx hb d_L_law_138 ?_
  refine wk_i (y := nI (i + 1)) (nI_add i 1) ?_
  refine va_sld hx hb hX hbl (Nat.not_le.mpr hbl) hS (vp_in_nI (by omega) (by omega)) d_L_law_139 ?_
  refine wk_i (y := xs (i + 1)) (by rw [nI_clamp (by omega)]) ?_
  refine lv_aload_n hx hb d_L_law_140 rfl (lv_at hl 3 rfl) ?_
  refine lv_iload_n hx hb d_L_law_141 rfl (lv_at hl 0 rfl) ?_
  refine lv_iconst (v := nI 2) hx hb d_L_law_142 (by decide) ?_
  refine lv_iadd hx hb d_L_law_143 ?_
  refine wk_i (y := nI (i + 2)) (nI_add i 2) ?_
  refine va_sld hx hb hX hbl (Nat.not_le.mpr hbl) hS (vp_in_nI (by omega) (by omega)) d_L_law_144 ?_
  refine wk_i (y := xs (i + 2)) (by rw [nI_clamp (by omega)]) ?_
  refine mu_i (wo := _) (va_runV (As := [.int (xs (i + 1)), .int (xs (i + 2))]) (rest := [.int (an_key (xs (i + 1)) (xs (i + 2)))]) ⟨hx, hb, hml, hown, hts⟩ (c_M_key l dC dI h1 q1 cB p q bx cl cd rd g (xs (i + 1)) (xs (i + 2)) hap.2.2.2.2.2.2.2.2.2) (cwV 2 hts (al_V (k_M_key) (aw_t235) (aw_t236) (aw_t237) (aw_t2)) rfl rfl rfl (by decide +kernel) ⟨Nat.le_of_ble_eq_true rfl, Nat.le_of_ble_eq_true rfl⟩) (pu_preV (q0 := 0) (ci := 1) hKM hPM rfl rfl) rfl rfl hl.1 rfl (lv_room (Nat.le_of_ble_eq_true rfl)) d_L_law_145 ⟨Nat.le_of_ble_eq_true rfl, Nat.le_of_ble_eq_true rfl⟩) hS hap.2.2.1 hap.2.2.2.1 (mu_o2 ⟨hap.2.2.2.2.2.1, hap.2.2.2.2.2.2.1⟩ ⟨hap.2.2.2.2.2.2.2.1, hap.2.2.2.2.2.2.2.2.1⟩) hPX (fun H locs hPM hPX hS => ?_)
  refine lv_icmp_eq (tgt := 905) hx hb d_L_law_148 (by decide) (fun hc148 => ?_) (fun hc148 => ?_)
  · skip
    exact kk (sel (sp_isK (xs (i + 1)) (xs (i + 2))) (xs (i + 1)).toInt.toNat p) (sel (sp_isK (xs (i + 1)) (xs (i + 2))) (xs (i + 2)).toInt.toNat q) (sel (sp_isK (xs (i + 1)) (xs (i + 2))) 0 cx) rd cl tt cd (sel (sp_isK (xs (i + 1)) (xs (i + 2))) 0 bx) g H locs hPX hPM hS (li_key hI _ _)
  · skip
    exact absurd rfl hc148

set_option maxHeartbeats 4000000 in
set_option maxRecDepth 100000 in
theorem ls_1 {pg : Program} {l : Launch} {ev : Env} {s : State} {mi : MethodId} {below : List Frame} {meth : Method} {co : Code} {b L : Nat} {xs : Nat → Int32} {H : Heap} {locs : List Loc} {Q : State → Prop} {dC : Nat → ClassId} {dI : Nat → Nat → Nat} {h0 q0 h1 q1 : Nat} {cA cB : ClassId} {w0 : Cond} {i p q cx rd cl tt cd bx : Nat} {g : Nat → Nat} {ls : Array Slot} (hx : pg.tables.exec = Jvm.exec) (hb : co.code = code) (hml : co.maxLocals = 4) (hown : s.vm.findClass R_L = some mi.cls) (hts : ∀ w ∈ w0 :: al_w, w.before #[Value.ref b] s = true) (hX : va_X b L xs s s.heap) (hbl : b < s.heap.size) (hKX : va_K (dC, dI) classes [(cA, .long)] s) (hKM : va_K (dC, dI) classes [(cB, .long)] s) (hap : lw_ap s.heap.size h0 q0 h1 q1) (hL : L ≤ 2560) (hi : i + 5 ≤ L) (hI : LI p q cx rd cl tt cd bx g) (hl : lv_has ls 4 [(3, .int (nI i)), (2, .ref h1), (1, .ref h0), (0, .ref b)]) (hPX : va_P (dC, dI) classes [(h0, .inr (0, [.int (nI p), .int (nI q), .int (nI (p * q)), .long (lN (p * q * (p * q))), .long (lN (sp_f p q)), .long (lN (sp_inv p q)), .long (lN (sp_cex p q)), .int (nI cx), .int (nI rd), .int (nI cl), .long (lN tt), .int (nI (sp_cnt g 30)), .ref q0])), (q0, .inl (cA, 30, .inr (.inl (fun j => lN (g j)))))] H) (hPM : va_P (dC, dI) classes [(h1, .inr (1, [.long (lN (p * q)), .long (lN (p * q * (p * q))), .long (lN (sp_f p q)), .long (lN (sp_cex p q)), .int (nI bx), .int (nI cl), .int (nI cd), .int (nI rd), .ref q1])), (q1, .inl (cB, 30, .inr (.inl (fun j => lN (g j)))))] H) (hS : va_S (fun q => s.heap.size ≤ q) s.heap H locs) (kk : ∀ (p q cx rd cl tt cd bx : Nat) (g : Nat → Nat) (H : Heap) (locs : List Loc), va_P (dC, dI) classes [(h0, .inr (0, [.int (nI p), .int (nI q), .int (nI (p * q)), .long (lN (p * q * (p * q))), .long (lN (sp_f p q)), .long (lN (sp_inv p q)), .long (lN (sp_cex p q)), .int (nI cx), .int (nI rd), .int (nI cl), .long (lN tt), .int (nI (sp_cnt g 30)), .ref q0])), (q0, .inl (cA, 30, .inr (.inl (fun j => lN (g j)))))] H → va_P (dC, dI) classes [(h1, .inr (1, [.long (lN (p * q)), .long (lN (p * q * (p * q))), .long (lN (sp_f p q)), .long (lN (sp_cex p q)), .int (nI bx), .int (nI cl), .int (nI cd), .int (nI rd), .ref q1])), (q1, .inl (cB, 30, .inr (.inl (fun j => lN (g j)))))] H → va_S (fun q => s.heap.size ≤ q) s.heap H locs → LI p q cx rd cl tt cd bx g → W pg l ev room_1 s mi #[Value.ref b] below meth co H locs 4 82 Q (F0 mi 905 ls [])) : W pg l ev room_1 s mi #[Value.ref b] below meth co H locs 4 82 Q (F0 mi 153 ls []) := by
  refine lv_aload_n hx hb d_L_law_153 rfl (lv_at hl 2 rfl) ?_
  refine pu_i (va_runV (As := []) (rest := []) ⟨hx, hb, hml, hown, hts⟩ (c_X_modulus l dC dI h0 q0 cA p q cx rd cl tt (sp_cnt g 30) g) (cwV 0 hts (al_V (k_X_modulus) (aw_t67) (aw_t68) (aw_t69) (aw_t1)) rfl rfl rfl (by decide +kernel) ⟨Nat.le_of_ble_eq_true rfl, Nat.le_of_ble_eq_true rfl⟩) (pu_preV (q0 := 0) (ci := 0) hKX hPX rfl rfl) rfl rfl hl.1 rfl (lv_room (Nat.le_of_ble_eq_true rfl)) d_L_law_154 ⟨Nat.le_of_ble_eq_true rfl, Nat.le_of_ble_eq_true rfl⟩) hS (fun H locs hkp hS => ?_)
  have hPX := hkp _ _ _ hPX
  have hPM := hkp _ _ _ hPM
  refine lv_aload_n hx hb d_L_law_157 rfl (lv_at hl 1 rfl) ?_
  refine pu_i (va_runV (As := []) (rest := [.int (nI (p * q))]) ⟨hx, hb, hml, hown, hts⟩ (c_M_modulus l dC dI h1 q1 cB p q bx cl cd rd g) (cwV 0 hts (al_V (k_M_modulus) (aw_t242) (aw_t243) (aw_t244) (aw_t2)) rfl rfl rfl (by decide +kernel) ⟨Nat.le_of_ble_eq_true rfl, Nat.le_of_ble_eq_true rfl⟩) (pu_preV (q0 := 0) (ci := 1) hKM hPM rfl rfl) rfl rfl hl.1 rfl (lv_room (Nat.le_of_ble_eq_true rfl)) d_L_law_158 ⟨Nat.le_of_ble_eq_true rfl, Nat.le_of_ble_eq_true rfl⟩) hS (fun H locs hkp hS => ?_)
  have hPX := hkp _ _ _ hPX
  have hPM := hkp _ _ _ hPM
  refine lv_icmp_eq (tgt := 905) hx hb d_L_law_161 (by decide) (fun hc161 => ?_) (fun hc161 => ?_)
  · skip
    exact kk p q cx rd cl tt cd bx g H locs hPX hPM hS (hI)
  · skip
    exact absurd rfl hc161

set_option maxHeartbeats 4000000 in
set_option maxRecDepth 100000 in
theorem ls_2 {pg : Program} {l : Launch} {ev : Env} {s : State} {mi : MethodId} {below : List Frame} {meth : Method} {co : Code} {b L : Nat} {xs : Nat → Int32} {H : Heap} {locs : List Loc} {Q : State → Prop} {dC : Nat → ClassId} {dI : Nat → Nat → Nat} {h0 q0 h1 q1 : Nat} {cA cB : ClassId} {w0 : Cond} {i p q cx rd cl tt cd bx : Nat} {g : Nat → Nat} {ls : Array Slot} (hx : pg.tables.exec = Jvm.exec) (hb : co.code = code) (hml : co.maxLocals = 4) (hown : s.vm.findClass R_L = some mi.cls) (hts : ∀ w ∈ w0 :: al_w, w.before #[Value.ref b] s = true) (hX : va_X b L xs s s.heap) (hbl : b < s.heap.size) (hKX : va_K (dC, dI) classes [(cA, .long)] s) (hKM : va_K (dC, dI) classes [(cB, .long)] s) (hap : lw_ap s.heap.size h0 q0 h1 q1) (hL : L ≤ 2560) (hi : i + 5 ≤ L) (hI : LI p q cx rd cl tt cd bx g) (hl : lv_has ls 4 [(3, .int (nI i)), (2, .ref h1), (1, .ref h0), (0, .ref b)]) (hPX : va_P (dC, dI) classes [(h0, .inr (0, [.int (nI p), .int (nI q), .int (nI (p * q)), .long (lN (p * q * (p * q))), .long (lN (sp_f p q)), .long (lN (sp_inv p q)), .long (lN (sp_cex p q)), .int (nI cx), .int (nI rd), .int (nI cl), .long (lN tt), .int (nI (sp_cnt g 30)), .ref q0])), (q0, .inl (cA, 30, .inr (.inl (fun j => lN (g j)))))] H) (hPM : va_P (dC, dI) classes [(h1, .inr (1, [.long (lN (p * q)), .long (lN (p * q * (p * q))), .long (lN (sp_f p q)), .long (lN (sp_cex p q)), .int (nI bx), .int (nI cl), .int (nI cd), .int (nI rd), .ref q1])), (q1, .inl (cB, 30, .inr (.inl (fun j => lN (g j)))))] H) (hS : va_S (fun q => s.heap.size ≤ q) s.heap H locs) (kk : ∀ (p q cx rd cl tt cd bx : Nat) (g : Nat → Nat) (H : Heap) (locs : List Loc), va_P (dC, dI) classes [(h0, .inr (0, [.int (nI p), .int (nI q), .int (nI (p * q)), .long (lN (p * q * (p * q))), .long (lN (sp_f p q)), .long (lN (sp_inv p q)), .long (lN (sp_cex p q)), .int (nI cx), .int (nI rd), .int (nI cl), .long (lN tt), .int (nI (sp_cnt g 30)), .ref q0])), (q0, .inl (cA, 30, .inr (.inl (fun j => lN (g j)))))] H → va_P (dC, dI) classes [(h1, .inr (1, [.long (lN (p * q)), .long (lN (p * q * (p * q))), .long (lN (sp_f p q)), .long (lN (sp_cex p q)), .int (nI bx), .int (nI cl), .int (nI cd), .int (nI rd), .ref q1])), (q1, .inl (cB, 30, .inr (.inl (fun j => lN (g j)))))] H → va_S (fun q => s.heap.size ≤ q) s.heap H locs → LI p q cx rd cl tt cd bx g → W pg l ev room_1 s mi #[Value.ref b] below meth co H locs 4 82 Q (F0 mi 905 ls [])) : W pg l ev room_1 s mi #[Value.ref b] below meth co H locs 4 82 Q (F0 mi 166 ls []) := by
  refine lv_aload_n hx hb d_L_law_166 rfl (lv_at hl 2 rfl) ?_
  refine lv_aload_n hx hb d_L_law_167 rfl (lv_at hl 3 rfl) ?_
  refine lv_iload_n hx hb d_L_law_168 rfl (lv_at hl 0 rfl) ?_
  refine lv_iconst (v := nI 1) hx hb d_L_law_169 (by decide) ?_
  refine lv_iadd hx hb d_L_law_170 ?_
  refine wk_i (y := nI (i + 1)) (nI_add i 1) ?_
  refine va_sld hx hb hX hbl (Nat.not_le.mpr hbl) hS (vp_in_nI (by omega) (by omega)) d_L_law_171 ?_
  refine wk_i (y := xs (i + 1)) (by rw [nI_clamp (by omega)]) ?_
  refine lv_i2l (v := Int32.toInt64 (xs (i + 1))) hx hb d_L_law_172 (rfl) ?_
  refine lv_bipush (v := nI 32) hx hb d_L_law_173 (by decide) ?_
  refine lv_lshl (v := (Int32.toInt64 (xs (i + 1))) <<< (Int32.toInt64 (nI 32) &&& 63)) hx hb d_L_law_175 (rfl) ?_
  refine lv_aload_n hx hb d_L_law_176 rfl (lv_at hl 3 rfl) ?_
  refine lv_iload_n hx hb d_L_law_177 rfl (lv_at hl 0 rfl) ?_
  refine lv_iconst (v := nI 2) hx hb d_L_law_178 (by decide) ?_
  refine lv_iadd hx hb d_L_law_179 ?_
  refine wk_i (y := nI (i + 2)) (nI_add i 2) ?_
  refine va_sld hx hb hX hbl (Nat.not_le.mpr hbl) hS (vp_in_nI (by omega) (by omega)) d_L_law_180 ?_
  refine wk_i (y := xs (i + 2)) (by rw [nI_clamp (by omega)]) ?_
  refine lv_i2l (v := Int32.toInt64 (xs (i + 2))) hx hb d_L_law_181 (rfl) ?_
  refine lv_ldc2 (v := lN 4294967295) hx hb hown (hts _ (al_m aw_t358)) d_L_law_182 ?_
  refine lv_land hx hb d_L_law_185 ?_
  refine lv_lor hx hb d_L_law_186 ?_
  refine wk_l (y := lb (xs (i + 1)) (xs (i + 2))) rfl ?_
  refine lv_aload_n hx hb d_L_law_187 rfl (lv_at hl 3 rfl) ?_
  refine lv_iload_n hx hb d_L_law_188 rfl (lv_at hl 0 rfl) ?_
  refine lv_iconst (v := nI 3) hx hb d_L_law_189 (by decide) ?_
  refine lv_iadd hx hb d_L_law_190 ?_
  refine wk_i (y := nI (i + 3)) (nI_add i 3) ?_
  refine va_sld hx hb hX hbl (Nat.not_le.mpr hbl) hS (vp_in_nI (by omega) (by omega)) d_L_law_191 ?_
  refine wk_i (y := xs (i + 3)) (by rw [nI_clamp (by omega)]) ?_
  refine lv_i2l (v := Int32.toInt64 (xs (i + 3))) hx hb d_L_law_192 (rfl) ?_
  refine lv_bipush (v := nI 32) hx hb d_L_law_193 (by decide) ?_
  refine lv_lshl (v := (Int32.toInt64 (xs (i + 3))) <<< (Int32.toInt64 (nI 32) &&& 63)) hx hb d_L_law_195 (rfl) ?_
  refine lv_aload_n hx hb d_L_law_196 rfl (lv_at hl 3 rfl) ?_
  refine lv_iload_n hx hb d_L_law_197 rfl (lv_at hl 0 rfl) ?_
  refine lv_iconst (v := nI 4) hx hb d_L_law_198 (by decide) ?_
  refine lv_iadd hx hb d_L_law_199 ?_
  refine wk_i (y := nI (i + 4)) (nI_add i 4) ?_
  refine va_sld hx hb hX hbl (Nat.not_le.mpr hbl) hS (vp_in_nI (by omega) (by omega)) d_L_law_200 ?_
  refine wk_i (y := xs (i + 4)) (by rw [nI_clamp (by omega)]) ?_
  refine lv_i2l (v := Int32.toInt64 (xs (i + 4))) hx hb d_L_law_201 (rfl) ?_
  refine lv_ldc2 (v := lN 4294967295) hx hb hown (hts _ (al_m aw_t358)) d_L_law_202 ?_
  refine lv_land hx hb d_L_law_205 ?_
  refine lv_lor hx hb d_L_law_206 ?_
  refine wk_l (y := lb (xs (i + 3)) (xs (i + 4))) rfl ?_
  refine pu_l (va_runV (As := [.long (lb (xs (i + 1)) (xs (i + 2))), .long (lb (xs (i + 3)) (xs (i + 4)))]) (rest := []) ⟨hx, hb, hml, hown, hts⟩ (c_X_seal l dC dI h0 q0 cA p q cx rd cl tt (sp_cnt g 30) g (lb (xs (i + 1)) (xs (i + 2))) (lb (xs (i + 3)) (xs (i + 4))) hI.1) (cwV 2 hts (al_V (k_X_seal) (aw_t71) (aw_t72) (aw_t73) (aw_t1)) rfl rfl rfl (by decide +kernel) ⟨Nat.le_of_ble_eq_true rfl, Nat.le_of_ble_eq_true rfl⟩) (pu_preV (q0 := 0) (ci := 0) hKX hPX rfl rfl) rfl rfl hl.1 rfl (lv_room (Nat.le_of_ble_eq_true rfl)) d_L_law_207 ⟨Nat.le_of_ble_eq_true rfl, Nat.le_of_ble_eq_true rfl⟩) hS (fun H locs hkp hS => ?_)
  have hPX := hkp _ _ _ hPX
  have hPM := hkp _ _ _ hPM
  refine lv_aload_n hx hb d_L_law_210 rfl (lv_at hl 1 rfl) ?_
  refine lv_aload_n hx hb d_L_law_211 rfl (lv_at hl 3 rfl) ?_
  refine lv_iload_n hx hb d_L_law_212 rfl (lv_at hl 0 rfl) ?_
  refine lv_iconst (v := nI 1) hx hb d_L_law_213 (by decide) ?_
  refine lv_iadd hx hb d_L_law_214 ?_
  refine wk_i (y := nI (i + 1)) (nI_add i 1) ?_
  refine va_sld hx hb hX hbl (Nat.not_le.mpr hbl) hS (vp_in_nI (by omega) (by omega)) d_L_law_215 ?_
  refine wk_i (y := xs (i + 1)) (by rw [nI_clamp (by omega)]) ?_
  refine lv_i2l (v := Int32.toInt64 (xs (i + 1))) hx hb d_L_law_216 (rfl) ?_
  refine lv_bipush (v := nI 32) hx hb d_L_law_217 (by decide) ?_
  refine lv_lshl (v := (Int32.toInt64 (xs (i + 1))) <<< (Int32.toInt64 (nI 32) &&& 63)) hx hb d_L_law_219 (rfl) ?_
  refine lv_aload_n hx hb d_L_law_220 rfl (lv_at hl 3 rfl) ?_
  refine lv_iload_n hx hb d_L_law_221 rfl (lv_at hl 0 rfl) ?_
  refine lv_iconst (v := nI 2) hx hb d_L_law_222 (by decide) ?_
  refine lv_iadd hx hb d_L_law_223 ?_
  refine wk_i (y := nI (i + 2)) (nI_add i 2) ?_
  refine va_sld hx hb hX hbl (Nat.not_le.mpr hbl) hS (vp_in_nI (by omega) (by omega)) d_L_law_224 ?_
  refine wk_i (y := xs (i + 2)) (by rw [nI_clamp (by omega)]) ?_
  refine lv_i2l (v := Int32.toInt64 (xs (i + 2))) hx hb d_L_law_225 (rfl) ?_
  refine lv_ldc2 (v := lN 4294967295) hx hb hown (hts _ (al_m aw_t358)) d_L_law_226 ?_
  refine lv_land hx hb d_L_law_229 ?_
  refine lv_lor hx hb d_L_law_230 ?_
  refine wk_l (y := lb (xs (i + 1)) (xs (i + 2))) rfl ?_
  refine lv_aload_n hx hb d_L_law_231 rfl (lv_at hl 3 rfl) ?_
  refine lv_iload_n hx hb d_L_law_232 rfl (lv_at hl 0 rfl) ?_
  refine lv_iconst (v := nI 3) hx hb d_L_law_233 (by decide) ?_
  refine lv_iadd hx hb d_L_law_234 ?_
  refine wk_i (y := nI (i + 3)) (nI_add i 3) ?_
  refine va_sld hx hb hX hbl (Nat.not_le.mpr hbl) hS (vp_in_nI (by omega) (by omega)) d_L_law_235 ?_
  refine wk_i (y := xs (i + 3)) (by rw [nI_clamp (by omega)]) ?_
  refine lv_i2l (v := Int32.toInt64 (xs (i + 3))) hx hb d_L_law_236 (rfl) ?_
  refine lv_bipush (v := nI 32) hx hb d_L_law_237 (by decide) ?_
  refine lv_lshl (v := (Int32.toInt64 (xs (i + 3))) <<< (Int32.toInt64 (nI 32) &&& 63)) hx hb d_L_law_239 (rfl) ?_
  refine lv_aload_n hx hb d_L_law_240 rfl (lv_at hl 3 rfl) ?_
  refine lv_iload_n hx hb d_L_law_241 rfl (lv_at hl 0 rfl) ?_
  refine lv_iconst (v := nI 4) hx hb d_L_law_242 (by decide) ?_
  refine lv_iadd hx hb d_L_law_243 ?_
  refine wk_i (y := nI (i + 4)) (nI_add i 4) ?_
  refine va_sld hx hb hX hbl (Nat.not_le.mpr hbl) hS (vp_in_nI (by omega) (by omega)) d_L_law_244 ?_
  refine wk_i (y := xs (i + 4)) (by rw [nI_clamp (by omega)]) ?_
  refine lv_i2l (v := Int32.toInt64 (xs (i + 4))) hx hb d_L_law_245 (rfl) ?_
  refine lv_ldc2 (v := lN 4294967295) hx hb hown (hts _ (al_m aw_t358)) d_L_law_246 ?_
  refine lv_land hx hb d_L_law_249 ?_
  refine lv_lor hx hb d_L_law_250 ?_
  refine wk_l (y := lb (xs (i + 3)) (xs (i + 4))) rfl ?_
  refine pu_l (va_runV (As := [.long (lb (xs (i + 1)) (xs (i + 2))), .long (lb (xs (i + 3)) (xs (i + 4)))]) (rest := [.long (an_seal p q (lb (xs (i + 1)) (xs (i + 2))) (lb (xs (i + 3)) (xs (i + 4))))]) ⟨hx, hb, hml, hown, hts⟩ (c_M_seal l dC dI h1 q1 cB p q bx cl cd rd g (lb (xs (i + 1)) (xs (i + 2))) (lb (xs (i + 3)) (xs (i + 4))) cx hI.1) (cwV 2 hts (al_V (k_M_seal) (aw_t246) (aw_t247) (aw_t248) (aw_t2)) rfl rfl rfl (by decide +kernel) ⟨Nat.le_of_ble_eq_true rfl, Nat.le_of_ble_eq_true rfl⟩) (pu_preV (q0 := 0) (ci := 1) hKM hPM rfl rfl) rfl rfl hl.1 rfl (lv_room (Nat.le_of_ble_eq_true rfl)) d_L_law_251 ⟨Nat.le_of_ble_eq_true rfl, Nat.le_of_ble_eq_true rfl⟩) hS (fun H locs hkp hS => ?_)
  have hPX := hkp _ _ _ hPX
  have hPM := hkp _ _ _ hPM
  refine W.lcmp hx hb d_L_law_254 ?_
  refine lv_if_eq (tgt := 905) hx hb d_L_law_255 (by decide) (fun hc255 => ?_) (fun hc255 => ?_)
  · skip
    rw [lg_cmp_eq] at hc255
    exact kk p q cx rd cl tt cd bx g H locs hPX hPM hS (hI)
  · skip
    rw [lg_cmp_eq] at hc255
    exact absurd rfl hc255

set_option maxHeartbeats 4000000 in
set_option maxRecDepth 100000 in
theorem ls_3 {pg : Program} {l : Launch} {ev : Env} {s : State} {mi : MethodId} {below : List Frame} {meth : Method} {co : Code} {b L : Nat} {xs : Nat → Int32} {H : Heap} {locs : List Loc} {Q : State → Prop} {dC : Nat → ClassId} {dI : Nat → Nat → Nat} {h0 q0 h1 q1 : Nat} {cA cB : ClassId} {w0 : Cond} {i p q cx rd cl tt cd bx : Nat} {g : Nat → Nat} {ls : Array Slot} (hx : pg.tables.exec = Jvm.exec) (hb : co.code = code) (hml : co.maxLocals = 4) (hown : s.vm.findClass R_L = some mi.cls) (hts : ∀ w ∈ w0 :: al_w, w.before #[Value.ref b] s = true) (hX : va_X b L xs s s.heap) (hbl : b < s.heap.size) (hKX : va_K (dC, dI) classes [(cA, .long)] s) (hKM : va_K (dC, dI) classes [(cB, .long)] s) (hap : lw_ap s.heap.size h0 q0 h1 q1) (hL : L ≤ 2560) (hi : i + 5 ≤ L) (hI : LI p q cx rd cl tt cd bx g) (hl : lv_has ls 4 [(3, .int (nI i)), (2, .ref h1), (1, .ref h0), (0, .ref b)]) (hPX : va_P (dC, dI) classes [(h0, .inr (0, [.int (nI p), .int (nI q), .int (nI (p * q)), .long (lN (p * q * (p * q))), .long (lN (sp_f p q)), .long (lN (sp_inv p q)), .long (lN (sp_cex p q)), .int (nI cx), .int (nI rd), .int (nI cl), .long (lN tt), .int (nI (sp_cnt g 30)), .ref q0])), (q0, .inl (cA, 30, .inr (.inl (fun j => lN (g j)))))] H) (hPM : va_P (dC, dI) classes [(h1, .inr (1, [.long (lN (p * q)), .long (lN (p * q * (p * q))), .long (lN (sp_f p q)), .long (lN (sp_cex p q)), .int (nI bx), .int (nI cl), .int (nI cd), .int (nI rd), .ref q1])), (q1, .inl (cB, 30, .inr (.inl (fun j => lN (g j)))))] H) (hS : va_S (fun q => s.heap.size ≤ q) s.heap H locs) (kk : ∀ (p q cx rd cl tt cd bx : Nat) (g : Nat → Nat) (H : Heap) (locs : List Loc), va_P (dC, dI) classes [(h0, .inr (0, [.int (nI p), .int (nI q), .int (nI (p * q)), .long (lN (p * q * (p * q))), .long (lN (sp_f p q)), .long (lN (sp_inv p q)), .long (lN (sp_cex p q)), .int (nI cx), .int (nI rd), .int (nI cl), .long (lN tt), .int (nI (sp_cnt g 30)), .ref q0])), (q0, .inl (cA, 30, .inr (.inl (fun j => lN (g j)))))] H → va_P (dC, dI) classes [(h1, .inr (1, [.long (lN (p * q)), .long (lN (p * q * (p * q))), .long (lN (sp_f p q)), .long (lN (sp_cex p q)), .int (nI bx), .int (nI cl), .int (nI cd), .int (nI rd), .ref q1])), (q1, .inl (cB, 30, .inr (.inl (fun j => lN (g j)))))] H → va_S (fun q => s.heap.size ≤ q) s.heap H locs → LI p q cx rd cl tt cd bx g → W pg l ev room_1 s mi #[Value.ref b] below meth co H locs 4 82 Q (F0 mi 905 ls [])) : W pg l ev room_1 s mi #[Value.ref b] below meth co H locs 4 82 Q (F0 mi 260 ls []) := by
  refine lv_aload_n hx hb d_L_law_260 rfl (lv_at hl 2 rfl) ?_
  refine lv_aload_n hx hb d_L_law_261 rfl (lv_at hl 3 rfl) ?_
  refine lv_iload_n hx hb d_L_law_262 rfl (lv_at hl 0 rfl) ?_
  refine lv_iconst (v := nI 1) hx hb d_L_law_263 (by decide) ?_
  refine lv_iadd hx hb d_L_law_264 ?_
  refine wk_i (y := nI (i + 1)) (nI_add i 1) ?_
  refine va_sld hx hb hX hbl (Nat.not_le.mpr hbl) hS (vp_in_nI (by omega) (by omega)) d_L_law_265 ?_
  refine wk_i (y := xs (i + 1)) (by rw [nI_clamp (by omega)]) ?_
  refine lv_i2l (v := Int32.toInt64 (xs (i + 1))) hx hb d_L_law_266 (rfl) ?_
  refine lv_bipush (v := nI 32) hx hb d_L_law_267 (by decide) ?_
  refine lv_lshl (v := (Int32.toInt64 (xs (i + 1))) <<< (Int32.toInt64 (nI 32) &&& 63)) hx hb d_L_law_269 (rfl) ?_
  refine lv_aload_n hx hb d_L_law_270 rfl (lv_at hl 3 rfl) ?_
  refine lv_iload_n hx hb d_L_law_271 rfl (lv_at hl 0 rfl) ?_
  refine lv_iconst (v := nI 2) hx hb d_L_law_272 (by decide) ?_
  refine lv_iadd hx hb d_L_law_273 ?_
  refine wk_i (y := nI (i + 2)) (nI_add i 2) ?_
  refine va_sld hx hb hX hbl (Nat.not_le.mpr hbl) hS (vp_in_nI (by omega) (by omega)) d_L_law_274 ?_
  refine wk_i (y := xs (i + 2)) (by rw [nI_clamp (by omega)]) ?_
  refine lv_i2l (v := Int32.toInt64 (xs (i + 2))) hx hb d_L_law_275 (rfl) ?_
  refine lv_ldc2 (v := lN 4294967295) hx hb hown (hts _ (al_m aw_t358)) d_L_law_276 ?_
  refine lv_land hx hb d_L_law_279 ?_
  refine lv_lor hx hb d_L_law_280 ?_
  refine wk_l (y := lb (xs (i + 1)) (xs (i + 2))) rfl ?_
  refine pu_l (va_runV (As := [.long (lb (xs (i + 1)) (xs (i + 2)))]) (rest := []) ⟨hx, hb, hml, hown, hts⟩ (c_X_message l dC dI h0 q0 cA p q cx rd cl tt (sp_cnt g 30) g (lb (xs (i + 1)) (xs (i + 2))) hI.1) (cwV 1 hts (al_V (k_X_message) (aw_t97) (aw_t98) (aw_t99) (aw_t1)) rfl rfl rfl (by decide +kernel) ⟨Nat.le_of_ble_eq_true rfl, Nat.le_of_ble_eq_true rfl⟩) (pu_preV (q0 := 0) (ci := 0) hKX hPX rfl rfl) rfl rfl hl.1 rfl (lv_room (Nat.le_of_ble_eq_true rfl)) d_L_law_281 ⟨Nat.le_of_ble_eq_true rfl, Nat.le_of_ble_eq_true rfl⟩) hS (fun H locs hkp hS => ?_)
  have hPX := hkp _ _ _ hPX
  have hPM := hkp _ _ _ hPM
  refine lv_aload_n hx hb d_L_law_284 rfl (lv_at hl 1 rfl) ?_
  refine lv_aload_n hx hb d_L_law_285 rfl (lv_at hl 3 rfl) ?_
  refine lv_iload_n hx hb d_L_law_286 rfl (lv_at hl 0 rfl) ?_
  refine lv_iconst (v := nI 1) hx hb d_L_law_287 (by decide) ?_
  refine lv_iadd hx hb d_L_law_288 ?_
  refine wk_i (y := nI (i + 1)) (nI_add i 1) ?_
  refine va_sld hx hb hX hbl (Nat.not_le.mpr hbl) hS (vp_in_nI (by omega) (by omega)) d_L_law_289 ?_
  refine wk_i (y := xs (i + 1)) (by rw [nI_clamp (by omega)]) ?_
  refine lv_i2l (v := Int32.toInt64 (xs (i + 1))) hx hb d_L_law_290 (rfl) ?_
  refine lv_bipush (v := nI 32) hx hb d_L_law_291 (by decide) ?_
  refine lv_lshl (v := (Int32.toInt64 (xs (i + 1))) <<< (Int32.toInt64 (nI 32) &&& 63)) hx hb d_L_law_293 (rfl) ?_
  refine lv_aload_n hx hb d_L_law_294 rfl (lv_at hl 3 rfl) ?_
  refine lv_iload_n hx hb d_L_law_295 rfl (lv_at hl 0 rfl) ?_
  refine lv_iconst (v := nI 2) hx hb d_L_law_296 (by decide) ?_
  refine lv_iadd hx hb d_L_law_297 ?_
  refine wk_i (y := nI (i + 2)) (nI_add i 2) ?_
  refine va_sld hx hb hX hbl (Nat.not_le.mpr hbl) hS (vp_in_nI (by omega) (by omega)) d_L_law_298 ?_
  refine wk_i (y := xs (i + 2)) (by rw [nI_clamp (by omega)]) ?_
  refine lv_i2l (v := Int32.toInt64 (xs (i + 2))) hx hb d_L_law_299 (rfl) ?_
  refine lv_ldc2 (v := lN 4294967295) hx hb hown (hts _ (al_m aw_t358)) d_L_law_300 ?_
  refine lv_land hx hb d_L_law_303 ?_
  refine lv_lor hx hb d_L_law_304 ?_
  refine wk_l (y := lb (xs (i + 1)) (xs (i + 2))) rfl ?_
  refine pu_l (va_runV (As := [.long (lb (xs (i + 1)) (xs (i + 2)))]) (rest := [.long (an_msg p q (lb (xs (i + 1)) (xs (i + 2))))]) ⟨hx, hb, hml, hown, hts⟩ (c_M_message l dC dI h1 q1 cB p q bx cl cd rd g (lb (xs (i + 1)) (xs (i + 2))) cx hI.1) (cwV 1 hts (al_V (k_M_message) (aw_t271) (aw_t272) (aw_t273) (aw_t2)) rfl rfl rfl (by decide +kernel) ⟨Nat.le_of_ble_eq_true rfl, Nat.le_of_ble_eq_true rfl⟩) (pu_preV (q0 := 0) (ci := 1) hKM hPM rfl rfl) rfl rfl hl.1 rfl (lv_room (Nat.le_of_ble_eq_true rfl)) d_L_law_305 ⟨Nat.le_of_ble_eq_true rfl, Nat.le_of_ble_eq_true rfl⟩) hS (fun H locs hkp hS => ?_)
  have hPX := hkp _ _ _ hPX
  have hPM := hkp _ _ _ hPM
  refine W.lcmp hx hb d_L_law_308 ?_
  refine lv_if_eq (tgt := 905) hx hb d_L_law_309 (by decide) (fun hc309 => ?_) (fun hc309 => ?_)
  · skip
    rw [lg_cmp_eq] at hc309
    exact kk p q cx rd cl tt cd bx g H locs hPX hPM hS (hI)
  · skip
    rw [lg_cmp_eq] at hc309
    exact absurd rfl hc309

set_option maxHeartbeats 4000000 in
set_option maxRecDepth 100000 in
theorem ls_4 {pg : Program} {l : Launch} {ev : Env} {s : State} {mi : MethodId} {below : List Frame} {meth : Method} {co : Code} {b L : Nat} {xs : Nat → Int32} {H : Heap} {locs : List Loc} {Q : State → Prop} {dC : Nat → ClassId} {dI : Nat → Nat → Nat} {h0 q0 h1 q1 : Nat} {cA cB : ClassId} {w0 : Cond} {i p q cx rd cl tt cd bx : Nat} {g : Nat → Nat} {ls : Array Slot} (hx : pg.tables.exec = Jvm.exec) (hb : co.code = code) (hml : co.maxLocals = 4) (hown : s.vm.findClass R_L = some mi.cls) (hts : ∀ w ∈ w0 :: al_w, w.before #[Value.ref b] s = true) (hX : va_X b L xs s s.heap) (hbl : b < s.heap.size) (hKX : va_K (dC, dI) classes [(cA, .long)] s) (hKM : va_K (dC, dI) classes [(cB, .long)] s) (hap : lw_ap s.heap.size h0 q0 h1 q1) (hL : L ≤ 2560) (hi : i + 5 ≤ L) (hI : LI p q cx rd cl tt cd bx g) (hl : lv_has ls 4 [(3, .int (nI i)), (2, .ref h1), (1, .ref h0), (0, .ref b)]) (hPX : va_P (dC, dI) classes [(h0, .inr (0, [.int (nI p), .int (nI q), .int (nI (p * q)), .long (lN (p * q * (p * q))), .long (lN (sp_f p q)), .long (lN (sp_inv p q)), .long (lN (sp_cex p q)), .int (nI cx), .int (nI rd), .int (nI cl), .long (lN tt), .int (nI (sp_cnt g 30)), .ref q0])), (q0, .inl (cA, 30, .inr (.inl (fun j => lN (g j)))))] H) (hPM : va_P (dC, dI) classes [(h1, .inr (1, [.long (lN (p * q)), .long (lN (p * q * (p * q))), .long (lN (sp_f p q)), .long (lN (sp_cex p q)), .int (nI bx), .int (nI cl), .int (nI cd), .int (nI rd), .ref q1])), (q1, .inl (cB, 30, .inr (.inl (fun j => lN (g j)))))] H) (hS : va_S (fun q => s.heap.size ≤ q) s.heap H locs) (kk : ∀ (p q cx rd cl tt cd bx : Nat) (g : Nat → Nat) (H : Heap) (locs : List Loc), va_P (dC, dI) classes [(h0, .inr (0, [.int (nI p), .int (nI q), .int (nI (p * q)), .long (lN (p * q * (p * q))), .long (lN (sp_f p q)), .long (lN (sp_inv p q)), .long (lN (sp_cex p q)), .int (nI cx), .int (nI rd), .int (nI cl), .long (lN tt), .int (nI (sp_cnt g 30)), .ref q0])), (q0, .inl (cA, 30, .inr (.inl (fun j => lN (g j)))))] H → va_P (dC, dI) classes [(h1, .inr (1, [.long (lN (p * q)), .long (lN (p * q * (p * q))), .long (lN (sp_f p q)), .long (lN (sp_cex p q)), .int (nI bx), .int (nI cl), .int (nI cd), .int (nI rd), .ref q1])), (q1, .inl (cB, 30, .inr (.inl (fun j => lN (g j)))))] H → va_S (fun q => s.heap.size ≤ q) s.heap H locs → LI p q cx rd cl tt cd bx g → W pg l ev room_1 s mi #[Value.ref b] below meth co H locs 4 82 Q (F0 mi 905 ls [])) : W pg l ev room_1 s mi #[Value.ref b] below meth co H locs 4 82 Q (F0 mi 314 ls []) := by
  refine lv_aload_n hx hb d_L_law_314 rfl (lv_at hl 2 rfl) ?_
  refine lv_aload_n hx hb d_L_law_315 rfl (lv_at hl 3 rfl) ?_
  refine lv_iload_n hx hb d_L_law_316 rfl (lv_at hl 0 rfl) ?_
  refine lv_iconst (v := nI 1) hx hb d_L_law_317 (by decide) ?_
  refine lv_iadd hx hb d_L_law_318 ?_
  refine wk_i (y := nI (i + 1)) (nI_add i 1) ?_
  refine va_sld hx hb hX hbl (Nat.not_le.mpr hbl) hS (vp_in_nI (by omega) (by omega)) d_L_law_319 ?_
  refine wk_i (y := xs (i + 1)) (by rw [nI_clamp (by omega)]) ?_
  refine lv_i2l (v := Int32.toInt64 (xs (i + 1))) hx hb d_L_law_320 (rfl) ?_
  refine lv_bipush (v := nI 32) hx hb d_L_law_321 (by decide) ?_
  refine lv_lshl (v := (Int32.toInt64 (xs (i + 1))) <<< (Int32.toInt64 (nI 32) &&& 63)) hx hb d_L_law_323 (rfl) ?_
  refine lv_aload_n hx hb d_L_law_324 rfl (lv_at hl 3 rfl) ?_
  refine lv_iload_n hx hb d_L_law_325 rfl (lv_at hl 0 rfl) ?_
  refine lv_iconst (v := nI 2) hx hb d_L_law_326 (by decide) ?_
  refine lv_iadd hx hb d_L_law_327 ?_
  refine wk_i (y := nI (i + 2)) (nI_add i 2) ?_
  refine va_sld hx hb hX hbl (Nat.not_le.mpr hbl) hS (vp_in_nI (by omega) (by omega)) d_L_law_328 ?_
  refine wk_i (y := xs (i + 2)) (by rw [nI_clamp (by omega)]) ?_
  refine lv_i2l (v := Int32.toInt64 (xs (i + 2))) hx hb d_L_law_329 (rfl) ?_
  refine lv_ldc2 (v := lN 4294967295) hx hb hown (hts _ (al_m aw_t358)) d_L_law_330 ?_
  refine lv_land hx hb d_L_law_333 ?_
  refine lv_lor hx hb d_L_law_334 ?_
  refine wk_l (y := lb (xs (i + 1)) (xs (i + 2))) rfl ?_
  refine pu_l (va_runV (As := [.long (lb (xs (i + 1)) (xs (i + 2)))]) (rest := []) ⟨hx, hb, hml, hown, hts⟩ (c_X_coin l dC dI h0 q0 cA p q cx rd cl tt (sp_cnt g 30) g (lb (xs (i + 1)) (xs (i + 2))) hI.1) (cwV 1 hts (al_V (k_X_coin) (aw_t109) (aw_t110) (aw_t111) (aw_t1)) rfl rfl rfl (by decide +kernel) ⟨Nat.le_of_ble_eq_true rfl, Nat.le_of_ble_eq_true rfl⟩) (pu_preV (q0 := 0) (ci := 0) hKX hPX rfl rfl) rfl rfl hl.1 rfl (lv_room (Nat.le_of_ble_eq_true rfl)) d_L_law_335 ⟨Nat.le_of_ble_eq_true rfl, Nat.le_of_ble_eq_true rfl⟩) hS (fun H locs hkp hS => ?_)
  have hPX := hkp _ _ _ hPX
  have hPM := hkp _ _ _ hPM
  refine lv_aload_n hx hb d_L_law_338 rfl (lv_at hl 1 rfl) ?_
  refine lv_aload_n hx hb d_L_law_339 rfl (lv_at hl 3 rfl) ?_
  refine lv_iload_n hx hb d_L_law_340 rfl (lv_at hl 0 rfl) ?_
  refine lv_iconst (v := nI 1) hx hb d_L_law_341 (by decide) ?_
  refine lv_iadd hx hb d_L_law_342 ?_
  refine wk_i (y := nI (i + 1)) (nI_add i 1) ?_
  refine va_sld hx hb hX hbl (Nat.not_le.mpr hbl) hS (vp_in_nI (by omega) (by omega)) d_L_law_343 ?_
  refine wk_i (y := xs (i + 1)) (by rw [nI_clamp (by omega)]) ?_
  refine lv_i2l (v := Int32.toInt64 (xs (i + 1))) hx hb d_L_law_344 (rfl) ?_
  refine lv_bipush (v := nI 32) hx hb d_L_law_345 (by decide) ?_
  refine lv_lshl (v := (Int32.toInt64 (xs (i + 1))) <<< (Int32.toInt64 (nI 32) &&& 63)) hx hb d_L_law_347 (rfl) ?_
  refine lv_aload_n hx hb d_L_law_348 rfl (lv_at hl 3 rfl) ?_
  refine lv_iload_n hx hb d_L_law_349 rfl (lv_at hl 0 rfl) ?_
  refine lv_iconst (v := nI 2) hx hb d_L_law_350 (by decide) ?_
  refine lv_iadd hx hb d_L_law_351 ?_
  refine wk_i (y := nI (i + 2)) (nI_add i 2) ?_
  refine va_sld hx hb hX hbl (Nat.not_le.mpr hbl) hS (vp_in_nI (by omega) (by omega)) d_L_law_352 ?_
  refine wk_i (y := xs (i + 2)) (by rw [nI_clamp (by omega)]) ?_
  refine lv_i2l (v := Int32.toInt64 (xs (i + 2))) hx hb d_L_law_353 (rfl) ?_
  refine lv_ldc2 (v := lN 4294967295) hx hb hown (hts _ (al_m aw_t358)) d_L_law_354 ?_
  refine lv_land hx hb d_L_law_357 ?_
  refine lv_lor hx hb d_L_law_358 ?_
  refine wk_l (y := lb (xs (i + 1)) (xs (i + 2))) rfl ?_
  refine pu_l (va_runV (As := [.long (lb (xs (i + 1)) (xs (i + 2)))]) (rest := [.long (an_coin p q (lb (xs (i + 1)) (xs (i + 2))))]) ⟨hx, hb, hml, hown, hts⟩ (c_M_coin l dC dI h1 q1 cB p q bx cl cd rd g (lb (xs (i + 1)) (xs (i + 2))) cx hI.1) (cwV 1 hts (al_V (k_M_coin) (aw_t287) (aw_t288) (aw_t289) (aw_t2)) rfl rfl rfl (by decide +kernel) ⟨Nat.le_of_ble_eq_true rfl, Nat.le_of_ble_eq_true rfl⟩) (pu_preV (q0 := 0) (ci := 1) hKM hPM rfl rfl) rfl rfl hl.1 rfl (lv_room (Nat.le_of_ble_eq_true rfl)) d_L_law_359 ⟨Nat.le_of_ble_eq_true rfl, Nat.le_of_ble_eq_true rfl⟩) hS (fun H locs hkp hS => ?_)
  have hPX := hkp _ _ _ hPX
  have hPM := hkp _ _ _ hPM
  refine W.lcmp hx hb d_L_law_362 ?_
  refine lv_if_eq (tgt := 905) hx hb d_L_law_363 (by decide) (fun hc363 => ?_) (fun hc363 => ?_)
  · skip
    rw [lg_cmp_eq] at hc363
    exact kk p q cx rd cl tt cd bx g H locs hPX hPM hS (hI)
  · skip
    rw [lg_cmp_eq] at hc363
    exact absurd rfl hc363

set_option maxHeartbeats 4000000 in
set_option maxRecDepth 100000 in
theorem ls_5 {pg : Program} {l : Launch} {ev : Env} {s : State} {mi : MethodId} {below : List Frame} {meth : Method} {co : Code} {b L : Nat} {xs : Nat → Int32} {H : Heap} {locs : List Loc} {Q : State → Prop} {dC : Nat → ClassId} {dI : Nat → Nat → Nat} {h0 q0 h1 q1 : Nat} {cA cB : ClassId} {w0 : Cond} {i p q cx rd cl tt cd bx : Nat} {g : Nat → Nat} {ls : Array Slot} (hx : pg.tables.exec = Jvm.exec) (hb : co.code = code) (hml : co.maxLocals = 4) (hown : s.vm.findClass R_L = some mi.cls) (hts : ∀ w ∈ w0 :: al_w, w.before #[Value.ref b] s = true) (hX : va_X b L xs s s.heap) (hbl : b < s.heap.size) (hKX : va_K (dC, dI) classes [(cA, .long)] s) (hKM : va_K (dC, dI) classes [(cB, .long)] s) (hap : lw_ap s.heap.size h0 q0 h1 q1) (hL : L ≤ 2560) (hi : i + 5 ≤ L) (hI : LI p q cx rd cl tt cd bx g) (hl : lv_has ls 4 [(3, .int (nI i)), (2, .ref h1), (1, .ref h0), (0, .ref b)]) (hPX : va_P (dC, dI) classes [(h0, .inr (0, [.int (nI p), .int (nI q), .int (nI (p * q)), .long (lN (p * q * (p * q))), .long (lN (sp_f p q)), .long (lN (sp_inv p q)), .long (lN (sp_cex p q)), .int (nI cx), .int (nI rd), .int (nI cl), .long (lN tt), .int (nI (sp_cnt g 30)), .ref q0])), (q0, .inl (cA, 30, .inr (.inl (fun j => lN (g j)))))] H) (hPM : va_P (dC, dI) classes [(h1, .inr (1, [.long (lN (p * q)), .long (lN (p * q * (p * q))), .long (lN (sp_f p q)), .long (lN (sp_cex p q)), .int (nI bx), .int (nI cl), .int (nI cd), .int (nI rd), .ref q1])), (q1, .inl (cB, 30, .inr (.inl (fun j => lN (g j)))))] H) (hS : va_S (fun q => s.heap.size ≤ q) s.heap H locs) (kk : ∀ (p q cx rd cl tt cd bx : Nat) (g : Nat → Nat) (H : Heap) (locs : List Loc), va_P (dC, dI) classes [(h0, .inr (0, [.int (nI p), .int (nI q), .int (nI (p * q)), .long (lN (p * q * (p * q))), .long (lN (sp_f p q)), .long (lN (sp_inv p q)), .long (lN (sp_cex p q)), .int (nI cx), .int (nI rd), .int (nI cl), .long (lN tt), .int (nI (sp_cnt g 30)), .ref q0])), (q0, .inl (cA, 30, .inr (.inl (fun j => lN (g j)))))] H → va_P (dC, dI) classes [(h1, .inr (1, [.long (lN (p * q)), .long (lN (p * q * (p * q))), .long (lN (sp_f p q)), .long (lN (sp_cex p q)), .int (nI bx), .int (nI cl), .int (nI cd), .int (nI rd), .ref q1])), (q1, .inl (cB, 30, .inr (.inl (fun j => lN (g j)))))] H → va_S (fun q => s.heap.size ≤ q) s.heap H locs → LI p q cx rd cl tt cd bx g → W pg l ev room_1 s mi #[Value.ref b] below meth co H locs 4 82 Q (F0 mi 905 ls [])) : W pg l ev room_1 s mi #[Value.ref b] below meth co H locs 4 82 Q (F0 mi 368 ls []) := by
  refine lv_aload_n hx hb d_L_law_368 rfl (lv_at hl 2 rfl) ?_
  refine lv_aload_n hx hb d_L_law_369 rfl (lv_at hl 3 rfl) ?_
  refine lv_iload_n hx hb d_L_law_370 rfl (lv_at hl 0 rfl) ?_
  refine lv_iconst (v := nI 1) hx hb d_L_law_371 (by decide) ?_
  refine lv_iadd hx hb d_L_law_372 ?_
  refine wk_i (y := nI (i + 1)) (nI_add i 1) ?_
  refine va_sld hx hb hX hbl (Nat.not_le.mpr hbl) hS (vp_in_nI (by omega) (by omega)) d_L_law_373 ?_
  refine wk_i (y := xs (i + 1)) (by rw [nI_clamp (by omega)]) ?_
  refine lv_i2l (v := Int32.toInt64 (xs (i + 1))) hx hb d_L_law_374 (rfl) ?_
  refine lv_bipush (v := nI 32) hx hb d_L_law_375 (by decide) ?_
  refine lv_lshl (v := (Int32.toInt64 (xs (i + 1))) <<< (Int32.toInt64 (nI 32) &&& 63)) hx hb d_L_law_377 (rfl) ?_
  refine lv_aload_n hx hb d_L_law_378 rfl (lv_at hl 3 rfl) ?_
  refine lv_iload_n hx hb d_L_law_379 rfl (lv_at hl 0 rfl) ?_
  refine lv_iconst (v := nI 2) hx hb d_L_law_380 (by decide) ?_
  refine lv_iadd hx hb d_L_law_381 ?_
  refine wk_i (y := nI (i + 2)) (nI_add i 2) ?_
  refine va_sld hx hb hX hbl (Nat.not_le.mpr hbl) hS (vp_in_nI (by omega) (by omega)) d_L_law_382 ?_
  refine wk_i (y := xs (i + 2)) (by rw [nI_clamp (by omega)]) ?_
  refine lv_i2l (v := Int32.toInt64 (xs (i + 2))) hx hb d_L_law_383 (rfl) ?_
  refine lv_ldc2 (v := lN 4294967295) hx hb hown (hts _ (al_m aw_t358)) d_L_law_384 ?_
  refine lv_land hx hb d_L_law_387 ?_
  refine lv_lor hx hb d_L_law_388 ?_
  refine wk_l (y := lb (xs (i + 1)) (xs (i + 2))) rfl ?_
  refine lv_aload_n hx hb d_L_law_389 rfl (lv_at hl 3 rfl) ?_
  refine lv_iload_n hx hb d_L_law_390 rfl (lv_at hl 0 rfl) ?_
  refine lv_iconst (v := nI 3) hx hb d_L_law_391 (by decide) ?_
  refine lv_iadd hx hb d_L_law_392 ?_
  refine wk_i (y := nI (i + 3)) (nI_add i 3) ?_
  refine va_sld hx hb hX hbl (Nat.not_le.mpr hbl) hS (vp_in_nI (by omega) (by omega)) d_L_law_393 ?_
  refine wk_i (y := xs (i + 3)) (by rw [nI_clamp (by omega)]) ?_
  refine lv_i2l (v := Int32.toInt64 (xs (i + 3))) hx hb d_L_law_394 (rfl) ?_
  refine lv_bipush (v := nI 32) hx hb d_L_law_395 (by decide) ?_
  refine lv_lshl (v := (Int32.toInt64 (xs (i + 3))) <<< (Int32.toInt64 (nI 32) &&& 63)) hx hb d_L_law_397 (rfl) ?_
  refine lv_aload_n hx hb d_L_law_398 rfl (lv_at hl 3 rfl) ?_
  refine lv_iload_n hx hb d_L_law_399 rfl (lv_at hl 0 rfl) ?_
  refine lv_iconst (v := nI 4) hx hb d_L_law_400 (by decide) ?_
  refine lv_iadd hx hb d_L_law_401 ?_
  refine wk_i (y := nI (i + 4)) (nI_add i 4) ?_
  refine va_sld hx hb hX hbl (Nat.not_le.mpr hbl) hS (vp_in_nI (by omega) (by omega)) d_L_law_402 ?_
  refine wk_i (y := xs (i + 4)) (by rw [nI_clamp (by omega)]) ?_
  refine lv_i2l (v := Int32.toInt64 (xs (i + 4))) hx hb d_L_law_403 (rfl) ?_
  refine lv_ldc2 (v := lN 4294967295) hx hb hown (hts _ (al_m aw_t358)) d_L_law_404 ?_
  refine lv_land hx hb d_L_law_407 ?_
  refine lv_lor hx hb d_L_law_408 ?_
  refine wk_l (y := lb (xs (i + 3)) (xs (i + 4))) rfl ?_
  refine pu_l (va_runV (As := [.long (lb (xs (i + 1)) (xs (i + 2))), .long (lb (xs (i + 3)) (xs (i + 4)))]) (rest := []) ⟨hx, hb, hml, hown, hts⟩ (c_X_join l dC dI h0 q0 cA p q cx rd cl tt (sp_cnt g 30) g (lb (xs (i + 1)) (xs (i + 2))) (lb (xs (i + 3)) (xs (i + 4))) hI.1) (cwV 2 hts (al_V (k_X_join) (aw_t117) (aw_t118) (aw_t119) (aw_t1)) rfl rfl rfl (by decide +kernel) ⟨Nat.le_of_ble_eq_true rfl, Nat.le_of_ble_eq_true rfl⟩) (pu_preV (q0 := 0) (ci := 0) hKX hPX rfl rfl) rfl rfl hl.1 rfl (lv_room (Nat.le_of_ble_eq_true rfl)) d_L_law_409 ⟨Nat.le_of_ble_eq_true rfl, Nat.le_of_ble_eq_true rfl⟩) hS (fun H locs hkp hS => ?_)
  have hPX := hkp _ _ _ hPX
  have hPM := hkp _ _ _ hPM
  refine lv_aload_n hx hb d_L_law_412 rfl (lv_at hl 1 rfl) ?_
  refine lv_aload_n hx hb d_L_law_413 rfl (lv_at hl 3 rfl) ?_
  refine lv_iload_n hx hb d_L_law_414 rfl (lv_at hl 0 rfl) ?_
  refine lv_iconst (v := nI 1) hx hb d_L_law_415 (by decide) ?_
  refine lv_iadd hx hb d_L_law_416 ?_
  refine wk_i (y := nI (i + 1)) (nI_add i 1) ?_
  refine va_sld hx hb hX hbl (Nat.not_le.mpr hbl) hS (vp_in_nI (by omega) (by omega)) d_L_law_417 ?_
  refine wk_i (y := xs (i + 1)) (by rw [nI_clamp (by omega)]) ?_
  refine lv_i2l (v := Int32.toInt64 (xs (i + 1))) hx hb d_L_law_418 (rfl) ?_
  refine lv_bipush (v := nI 32) hx hb d_L_law_419 (by decide) ?_
  refine lv_lshl (v := (Int32.toInt64 (xs (i + 1))) <<< (Int32.toInt64 (nI 32) &&& 63)) hx hb d_L_law_421 (rfl) ?_
  refine lv_aload_n hx hb d_L_law_422 rfl (lv_at hl 3 rfl) ?_
  refine lv_iload_n hx hb d_L_law_423 rfl (lv_at hl 0 rfl) ?_
  refine lv_iconst (v := nI 2) hx hb d_L_law_424 (by decide) ?_
  refine lv_iadd hx hb d_L_law_425 ?_
  refine wk_i (y := nI (i + 2)) (nI_add i 2) ?_
  refine va_sld hx hb hX hbl (Nat.not_le.mpr hbl) hS (vp_in_nI (by omega) (by omega)) d_L_law_426 ?_
  refine wk_i (y := xs (i + 2)) (by rw [nI_clamp (by omega)]) ?_
  refine lv_i2l (v := Int32.toInt64 (xs (i + 2))) hx hb d_L_law_427 (rfl) ?_
  refine lv_ldc2 (v := lN 4294967295) hx hb hown (hts _ (al_m aw_t358)) d_L_law_428 ?_
  refine lv_land hx hb d_L_law_431 ?_
  refine lv_lor hx hb d_L_law_432 ?_
  refine wk_l (y := lb (xs (i + 1)) (xs (i + 2))) rfl ?_
  refine lv_aload_n hx hb d_L_law_433 rfl (lv_at hl 3 rfl) ?_
  refine lv_iload_n hx hb d_L_law_434 rfl (lv_at hl 0 rfl) ?_
  refine lv_iconst (v := nI 3) hx hb d_L_law_435 (by decide) ?_
  refine lv_iadd hx hb d_L_law_436 ?_
  refine wk_i (y := nI (i + 3)) (nI_add i 3) ?_
  refine va_sld hx hb hX hbl (Nat.not_le.mpr hbl) hS (vp_in_nI (by omega) (by omega)) d_L_law_437 ?_
  refine wk_i (y := xs (i + 3)) (by rw [nI_clamp (by omega)]) ?_
  refine lv_i2l (v := Int32.toInt64 (xs (i + 3))) hx hb d_L_law_438 (rfl) ?_
  refine lv_bipush (v := nI 32) hx hb d_L_law_439 (by decide) ?_
  refine lv_lshl (v := (Int32.toInt64 (xs (i + 3))) <<< (Int32.toInt64 (nI 32) &&& 63)) hx hb d_L_law_441 (rfl) ?_
  refine lv_aload_n hx hb d_L_law_442 rfl (lv_at hl 3 rfl) ?_
  refine lv_iload_n hx hb d_L_law_443 rfl (lv_at hl 0 rfl) ?_
  refine lv_iconst (v := nI 4) hx hb d_L_law_444 (by decide) ?_
  refine lv_iadd hx hb d_L_law_445 ?_
  refine wk_i (y := nI (i + 4)) (nI_add i 4) ?_
  refine va_sld hx hb hX hbl (Nat.not_le.mpr hbl) hS (vp_in_nI (by omega) (by omega)) d_L_law_446 ?_
  refine wk_i (y := xs (i + 4)) (by rw [nI_clamp (by omega)]) ?_
  refine lv_i2l (v := Int32.toInt64 (xs (i + 4))) hx hb d_L_law_447 (rfl) ?_
  refine lv_ldc2 (v := lN 4294967295) hx hb hown (hts _ (al_m aw_t358)) d_L_law_448 ?_
  refine lv_land hx hb d_L_law_451 ?_
  refine lv_lor hx hb d_L_law_452 ?_
  refine wk_l (y := lb (xs (i + 3)) (xs (i + 4))) rfl ?_
  refine pu_l (va_runV (As := [.long (lb (xs (i + 1)) (xs (i + 2))), .long (lb (xs (i + 3)) (xs (i + 4)))]) (rest := [.long (an_join p q (lb (xs (i + 1)) (xs (i + 2))) (lb (xs (i + 3)) (xs (i + 4))))]) ⟨hx, hb, hml, hown, hts⟩ (c_M_join l dC dI h1 q1 cB p q bx cl cd rd g (lb (xs (i + 1)) (xs (i + 2))) (lb (xs (i + 3)) (xs (i + 4))) cx hI.1) (cwV 2 hts (al_V (k_M_join) (aw_t291) (aw_t292) (aw_t293) (aw_t2)) rfl rfl rfl (by decide +kernel) ⟨Nat.le_of_ble_eq_true rfl, Nat.le_of_ble_eq_true rfl⟩) (pu_preV (q0 := 0) (ci := 1) hKM hPM rfl rfl) rfl rfl hl.1 rfl (lv_room (Nat.le_of_ble_eq_true rfl)) d_L_law_453 ⟨Nat.le_of_ble_eq_true rfl, Nat.le_of_ble_eq_true rfl⟩) hS (fun H locs hkp hS => ?_)
  have hPX := hkp _ _ _ hPX
  have hPM := hkp _ _ _ hPM
  refine W.lcmp hx hb d_L_law_456 ?_
  refine lv_if_eq (tgt := 905) hx hb d_L_law_457 (by decide) (fun hc457 => ?_) (fun hc457 => ?_)
  · skip
    rw [lg_cmp_eq] at hc457
    exact kk p q cx rd cl tt cd bx g H locs hPX hPM hS (hI)
  · skip
    rw [lg_cmp_eq] at hc457
    exact absurd rfl hc457
