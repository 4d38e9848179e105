set_option maxHeartbeats 4000000 in
set_option maxRecDepth 100000 in
theorem ls_12 {pg : Program} {l : Launch} {ev : Env} {s : State} {mi : MethodId} {below : List Frame} {meth : Method} {co : Code} {b L : Nat} {xs : Nat → Int32} {H : Heap} {locs : List Loc} {Q : State → Prop} {dC : Nat → ClassId} {dI : Nat → Nat → Nat} {h0 q0 h1 q1 : Nat} {cA cB : ClassId} {w0 : Cond} {i p q cx rd cl tt cd bx : Nat} {g : Nat → Nat} {ls : Array Slot} (hx : pg.tables.exec = Jvm.exec) (hb : co.code = code) (hml : co.maxLocals = 4) (hown : s.vm.findClass R_L = some mi.cls) (hts : ∀ w ∈ w0 :: al_w, w.before #[Value.ref b] s = true) (hX : va_X b L xs s s.heap) (hbl : b < s.heap.size) (hKX : va_K (dC, dI) classes [(cA, .long)] s) (hKM : va_K (dC, dI) classes [(cB, .long)] s) (hap : lw_ap s.heap.size h0 q0 h1 q1) (hL : L ≤ 2560) (hi : i + 5 ≤ L) (hI : LI p q cx rd cl tt cd bx g) (hl : lv_has ls 4 [(3, .int (nI i)), (2, .ref h1), (1, .ref h0), (0, .ref b)]) (hPX : va_P (dC, dI) classes [(h0, .inr (0, [.int (nI p), .int (nI q), .int (nI (p * q)), .long (lN (p * q * (p * q))), .long (lN (sp_f p q)), .long (lN (sp_inv p q)), .long (lN (sp_cex p q)), .int (nI cx), .int (nI rd), .int (nI cl), .long (lN tt), .int (nI (sp_cnt g 30)), .ref q0])), (q0, .inl (cA, 30, .inr (.inl (fun j => lN (g j)))))] H) (hPM : va_P (dC, dI) classes [(h1, .inr (1, [.long (lN (p * q)), .long (lN (p * q * (p * q))), .long (lN (sp_f p q)), .long (lN (sp_cex p q)), .int (nI bx), .int (nI cl), .int (nI cd), .int (nI rd), .ref q1])), (q1, .inl (cB, 30, .inr (.inl (fun j => lN (g j)))))] H) (hS : va_S (fun q => s.heap.size ≤ q) s.heap H locs) (kk : ∀ (p q cx rd cl tt cd bx : Nat) (g : Nat → Nat) (H : Heap) (locs : List Loc), va_P (dC, dI) classes [(h0, .inr (0, [.int (nI p), .int (nI q), .int (nI (p * q)), .long (lN (p * q * (p * q))), .long (lN (sp_f p q)), .long (lN (sp_inv p q)), .long (lN (sp_cex p q)), .int (nI cx), .int (nI rd), .int (nI cl), .long (lN tt), .int (nI (sp_cnt g 30)), .ref q0])), (q0, .inl (cA, 30, .inr (.inl (fun j => lN (g j)))))] H → va_P (dC, dI) classes [(h1, .inr (1, [.long (lN (p * q)), .long (lN (p * q * (p * q))), .long (lN (sp_f p q)), .long (lN (sp_cex p q)), .int (nI bx), .int (nI cl), .int (nI cd), .int (nI rd), .ref q1])), (q1, .inl (cB, 30, .inr (.inl (fun j => lN (g j)))))] H → va_S (fun q => s.heap.size ≤ q) s.heap H locs → LI p q cx rd cl tt cd bx g → W pg l ev room_1 s mi #[Value.ref b] below meth co H locs 4 82 Q (F0 mi 905 ls [])) : W pg l ev room_1 s mi #[Value.ref b] below meth co H locs 4 82 Q (F0 mi 734 ls []) := by
  refine lv_aload_n hx hb d_L_law_734 rfl (lv_at hl 2 rfl) ?_
  refine pu_i (va_runV (As := []) (rest := []) ⟨hx, hb, hml, hown, hts⟩ (c_X_ballots l dC dI h0 q0 cA p q cx rd cl tt (sp_cnt g 30) g  hI.1 rfl) (cwV 0 hts (al_V (k_X_ballots) (aw_t173) (aw_t174) (aw_t175) (aw_t1)) rfl rfl rfl (by decide +kernel) ⟨Nat.le_of_ble_eq_true rfl, Nat.le_of_ble_eq_true rfl⟩) (pu_preV (q0 := 0) (ci := 0) hKX hPX rfl rfl) rfl rfl hl.1 rfl (lv_room (Nat.le_of_ble_eq_true rfl)) d_L_law_735 ⟨Nat.le_of_ble_eq_true rfl, Nat.le_of_ble_eq_true rfl⟩) hS (fun H locs hkp hS => ?_)
  have hPX := hkp _ _ _ hPX
  have hPM := hkp _ _ _ hPM
  refine lv_aload_n hx hb d_L_law_738 rfl (lv_at hl 1 rfl) ?_
  refine pu_i (va_runV (As := []) (rest := [.int (an_ballots cx g)]) ⟨hx, hb, hml, hown, hts⟩ (c_M_ballots l dC dI h1 q1 cB p q bx cl cd rd g  cx hI.1 hI.2.1 hI.2.2.2.2.1 hI.2.2.2.2.2.1 hI.2.2.2.2.2.2 hI.2.2.1) (cwV 0 hts (al_V (k_M_ballots) (aw_t330) (aw_t331) (aw_t332) (aw_t2)) rfl rfl rfl (by decide +kernel) ⟨Nat.le_of_ble_eq_true rfl, Nat.le_of_ble_eq_true rfl⟩) (pu_preV (q0 := 0) (ci := 1) hKM hPM rfl rfl) rfl rfl hl.1 rfl (lv_room (Nat.le_of_ble_eq_true rfl)) d_L_law_739 ⟨Nat.le_of_ble_eq_true rfl, Nat.le_of_ble_eq_true rfl⟩) hS (fun H locs hkp hS => ?_)
  have hPX := hkp _ _ _ hPX
  have hPM := hkp _ _ _ hPM
  refine lv_icmp_eq (tgt := 905) hx hb d_L_law_742 (by decide) (fun hc742 => ?_) (fun hc742 => ?_)
  · skip
    exact kk p q cx rd cl tt cd bx g H locs hPX hPM hS (hI)
  · skip
    exact absurd rfl hc742

set_option maxHeartbeats 4000000 in
set_option maxRecDepth 100000 in
theorem ls_13 {pg : Program} {l : Launch} {ev : Env} {s : State} {mi : MethodId} {below : List Frame} {meth : Method} {co : Code} {b L : Nat} {xs : Nat → Int32} {H : Heap} {locs : List Loc} {Q : State → Prop} {dC : Nat → ClassId} {dI : Nat → Nat → Nat} {h0 q0 h1 q1 : Nat} {cA cB : ClassId} {w0 : Cond} {i p q cx rd cl tt cd bx : Nat} {g : Nat → Nat} {ls : Array Slot} (hx : pg.tables.exec = Jvm.exec) (hb : co.code = code) (hml : co.maxLocals = 4) (hown : s.vm.findClass R_L = some mi.cls) (hts : ∀ w ∈ w0 :: al_w, w.before #[Value.ref b] s = true) (hX : va_X b L xs s s.heap) (hbl : b < s.heap.size) (hKX : va_K (dC, dI) classes [(cA, .long)] s) (hKM : va_K (dC, dI) classes [(cB, .long)] s) (hap : lw_ap s.heap.size h0 q0 h1 q1) (hL : L ≤ 2560) (hi : i + 5 ≤ L) (hI : LI p q cx rd cl tt cd bx g) (hl : lv_has ls 4 [(3, .int (nI i)), (2, .ref h1), (1, .ref h0), (0, .ref b)]) (hPX : va_P (dC, dI) classes [(h0, .inr (0, [.int (nI p), .int (nI q), .int (nI (p * q)), .long (lN (p * q * (p * q))), .long (lN (sp_f p q)), .long (lN (sp_inv p q)), .long (lN (sp_cex p q)), .int (nI cx), .int (nI rd), .int (nI cl), .long (lN tt), .int (nI (sp_cnt g 30)), .ref q0])), (q0, .inl (cA, 30, .inr (.inl (fun j => lN (g j)))))] H) (hPM : va_P (dC, dI) classes [(h1, .inr (1, [.long (lN (p * q)), .long (lN (p * q * (p * q))), .long (lN (sp_f p q)), .long (lN (sp_cex p q)), .int (nI bx), .int (nI cl), .int (nI cd), .int (nI rd), .ref q1])), (q1, .inl (cB, 30, .inr (.inl (fun j => lN (g j)))))] H) (hS : va_S (fun q => s.heap.size ≤ q) s.heap H locs) (kk : ∀ (p q cx rd cl tt cd bx : Nat) (g : Nat → Nat) (H : Heap) (locs : List Loc), va_P (dC, dI) classes [(h0, .inr (0, [.int (nI p), .int (nI q), .int (nI (p * q)), .long (lN (p * q * (p * q))), .long (lN (sp_f p q)), .long (lN (sp_inv p q)), .long (lN (sp_cex p q)), .int (nI cx), .int (nI rd), .int (nI cl), .long (lN tt), .int (nI (sp_cnt g 30)), .ref q0])), (q0, .inl (cA, 30, .inr (.inl (fun j => lN (g j)))))] H → va_P (dC, dI) classes [(h1, .inr (1, [.long (lN (p * q)), .long (lN (p * q * (p * q))), .long (lN (sp_f p q)), .long (lN (sp_cex p q)), .int (nI bx), .int (nI cl), .int (nI cd), .int (nI rd), .ref q1])), (q1, .inl (cB, 30, .inr (.inl (fun j => lN (g j)))))] H → va_S (fun q => s.heap.size ≤ q) s.heap H locs → LI p q cx rd cl tt cd bx g → W pg l ev room_1 s mi #[Value.ref b] below meth co H locs 4 82 Q (F0 mi 905 ls [])) : W pg l ev room_1 s mi #[Value.ref b] below meth co H locs 4 82 Q (F0 mi 747 ls []) := by
  refine lv_aload_n hx hb d_L_law_747 rfl (lv_at hl 2 rfl) ?_
  refine pu_l (va_runV (As := []) (rest := []) ⟨hx, hb, hml, hown, hts⟩ (c_X_sum l dC dI h0 q0 cA p q cx rd cl tt (sp_cnt g 30) g  hI.1 hI.2.1) (cwV 0 hts (al_V (k_X_sum) (aw_t177) (aw_t178) (aw_t179) (aw_t1)) rfl rfl rfl (by decide +kernel) ⟨Nat.le_of_ble_eq_true rfl, Nat.le_of_ble_eq_true rfl⟩) (pu_preV (q0 := 0) (ci := 0) hKX hPX rfl rfl) rfl rfl hl.1 rfl (lv_room (Nat.le_of_ble_eq_true rfl)) d_L_law_748 ⟨Nat.le_of_ble_eq_true rfl, Nat.le_of_ble_eq_true rfl⟩) hS (fun H locs hkp hS => ?_)
  have hPX := hkp _ _ _ hPX
  have hPM := hkp _ _ _ hPM
  refine lv_aload_n hx hb d_L_law_751 rfl (lv_at hl 1 rfl) ?_
  refine pu_l (va_runV (As := []) (rest := [.long (an_sum p q cx g)]) ⟨hx, hb, hml, hown, hts⟩ (c_M_sum l dC dI h1 q1 cB p q bx cl cd rd g  cx hI.1 hI.2.1 hI.2.2.2.2.1 hI.2.2.2.2.2.1 hI.2.2.2.2.2.2 hI.2.2.1) (cwV 0 hts (al_V (k_M_sum) (aw_t334) (aw_t335) (aw_t336) (aw_t2)) rfl rfl rfl (by decide +kernel) ⟨Nat.le_of_ble_eq_true rfl, Nat.le_of_ble_eq_true rfl⟩) (pu_preV (q0 := 0) (ci := 1) hKM hPM rfl rfl) rfl rfl hl.1 rfl (lv_room (Nat.le_of_ble_eq_true rfl)) d_L_law_752 ⟨Nat.le_of_ble_eq_true rfl, Nat.le_of_ble_eq_true rfl⟩) hS (fun H locs hkp hS => ?_)
  have hPX := hkp _ _ _ hPX
  have hPM := hkp _ _ _ hPM
  refine W.lcmp hx hb d_L_law_755 ?_
  refine lv_if_eq (tgt := 905) hx hb d_L_law_756 (by decide) (fun hc756 => ?_) (fun hc756 => ?_)
  · skip
    rw [lg_cmp_eq] at hc756
    exact kk p q cx rd cl tt cd bx g H locs hPX hPM hS (hI)
  · skip
    rw [lg_cmp_eq] at hc756
    exact absurd rfl hc756

set_option maxHeartbeats 4000000 in
set_option maxRecDepth 100000 in
theorem ls_14 {pg : Program} {l : Launch} {ev : Env} {s : State} {mi : MethodId} {below : List Frame} {meth : Method} {co : Code} {b L : Nat} {xs : Nat → Int32} {H : Heap} {locs : List Loc} {Q : State → Prop} {dC : Nat → ClassId} {dI : Nat → Nat → Nat} {h0 q0 h1 q1 : Nat} {cA cB : ClassId} {w0 : Cond} {i p q cx rd cl tt cd bx : Nat} {g : Nat → Nat} {ls : Array Slot} (hx : pg.tables.exec = Jvm.exec) (hb : co.code = code) (hml : co.maxLocals = 4) (hown : s.vm.findClass R_L = some mi.cls) (hts : ∀ w ∈ w0 :: al_w, w.before #[Value.ref b] s = true) (hX : va_X b L xs s s.heap) (hbl : b < s.heap.size) (hKX : va_K (dC, dI) classes [(cA, .long)] s) (hKM : va_K (dC, dI) classes [(cB, .long)] s) (hap : lw_ap s.heap.size h0 q0 h1 q1) (hL : L ≤ 2560) (hi : i + 5 ≤ L) (hI : LI p q cx rd cl tt cd bx g) (hl : lv_has ls 4 [(3, .int (nI i)), (2, .ref h1), (1, .ref h0), (0, .ref b)]) (hPX : va_P (dC, dI) classes [(h0, .inr (0, [.int (nI p), .int (nI q), .int (nI (p * q)), .long (lN (p * q * (p * q))), .long (lN (sp_f p q)), .long (lN (sp_inv p q)), .long (lN (sp_cex p q)), .int (nI cx), .int (nI rd), .int (nI cl), .long (lN tt), .int (nI (sp_cnt g 30)), .ref q0])), (q0, .inl (cA, 30, .inr (.inl (fun j => lN (g j)))))] H) (hPM : va_P (dC, dI) classes [(h1, .inr (1, [.long (lN (p * q)), .long (lN (p * q * (p * q))), .long (lN (sp_f p q)), .long (lN (sp_cex p q)), .int (nI bx), .int (nI cl), .int (nI cd), .int (nI rd), .ref q1])), (q1, .inl (cB, 30, .inr (.inl (fun j => lN (g j)))))] H) (hS : va_S (fun q => s.heap.size ≤ q) s.heap H locs) (kk : ∀ (p q cx rd cl tt cd bx : Nat) (g : Nat → Nat) (H : Heap) (locs : List Loc), va_P (dC, dI) classes [(h0, .inr (0, [.int (nI p), .int (nI q), .int (nI (p * q)), .long (lN (p * q * (p * q))), .long (lN (sp_f p q)), .long (lN (sp_inv p q)), .long (lN (sp_cex p q)), .int (nI cx), .int (nI rd), .int (nI cl), .long (lN tt), .int (nI (sp_cnt g 30)), .ref q0])), (q0, .inl (cA, 30, .inr (.inl (fun j => lN (g j)))))] H → va_P (dC, dI) classes [(h1, .inr (1, [.long (lN (p * q)), .long (lN (p * q * (p * q))), .long (lN (sp_f p q)), .long (lN (sp_cex p q)), .int (nI bx), .int (nI cl), .int (nI cd), .int (nI rd), .ref q1])), (q1, .inl (cB, 30, .inr (.inl (fun j => lN (g j)))))] H → va_S (fun q => s.heap.size ≤ q) s.heap H locs → LI p q cx rd cl tt cd bx g → W pg l ev room_1 s mi #[Value.ref b] below meth co H locs 4 82 Q (F0 mi 905 ls [])) : W pg l ev room_1 s mi #[Value.ref b] below meth co H locs 4 82 Q (F0 mi 761 ls []) := by
  refine lv_aload_n hx hb d_L_law_761 rfl (lv_at hl 2 rfl) ?_
  refine mu_l (wo := _) (va_runV (As := []) (rest := []) ⟨hx, hb, hml, hown, hts⟩ (c_X_close l dC dI h0 q0 cA p q cx rd cl tt (sp_cnt g 30) g  hI.1 hI.2.2.1 hap.2.2.2.2.1) (cwV 0 hts (al_V (k_X_close) (aw_t185) (aw_t186) (aw_t187) (aw_t1)) rfl rfl rfl (by decide +kernel) ⟨Nat.le_of_ble_eq_true rfl, Nat.le_of_ble_eq_true rfl⟩) (pu_preV (q0 := 0) (ci := 0) hKX hPX rfl rfl) rfl rfl hl.1 rfl (lv_room (Nat.le_of_ble_eq_true rfl)) d_L_law_762 ⟨Nat.le_of_ble_eq_true rfl, Nat.le_of_ble_eq_true rfl⟩) hS hap.1 hap.2.1 (mu_o2 ⟨Ne.symm hap.2.2.2.2.2.1, Ne.symm hap.2.2.2.2.2.2.2.1⟩ ⟨Ne.symm hap.2.2.2.2.2.2.1, Ne.symm hap.2.2.2.2.2.2.2.2.1⟩) hPM (fun H locs hPX hPM hS => ?_)
  refine lv_aload_n hx hb d_L_law_765 rfl (lv_at hl 1 rfl) ?_
  refine mu_l (wo := _) (va_runV (As := []) (rest := [.long (an_close p q cx cl g)]) ⟨hx, hb, hml, hown, hts⟩ (c_M_close l dC dI h1 q1 cB p q bx cl cd rd g  cx hI.1 hI.2.1 hI.2.2.2.2.1 hI.2.2.2.2.2.1 hI.2.2.1 hap.2.2.2.2.2.2.2.2.2) (cwV 0 hts (al_V (k_M_close) (aw_t342) (aw_t343) (aw_t344) (aw_t2)) rfl rfl rfl (by decide +kernel) ⟨Nat.le_of_ble_eq_true rfl, Nat.le_of_ble_eq_true rfl⟩) (pu_preV (q0 := 0) (ci := 1) hKM hPM rfl rfl) rfl rfl hl.1 rfl (lv_room (Nat.le_of_ble_eq_true rfl)) d_L_law_766 ⟨Nat.le_of_ble_eq_true rfl, Nat.le_of_ble_eq_true rfl⟩) hS hap.2.2.1 hap.2.2.2.1 (mu_o2 ⟨hap.2.2.2.2.2.1, hap.2.2.2.2.2.2.1⟩ ⟨hap.2.2.2.2.2.2.2.1, hap.2.2.2.2.2.2.2.2.1⟩) hPX (fun H locs hPM hPX hS => ?_)
  refine W.lcmp hx hb d_L_law_769 ?_
  refine lv_if_eq (tgt := 905) hx hb d_L_law_770 (by decide) (fun hc770 => ?_) (fun hc770 => ?_)
  · skip
    rw [lg_cmp_eq] at hc770
    exact kk p q cx rd (sel (decide (cx = 0)) cl 1) (sel (decide (cx = 0 ∨ cl = 1)) tt (sp_msg p q (sp_prod g 30 % sq_ p q))) cd bx g H locs hPX hPM hS (li_close hI)
  · skip
    rw [lg_cmp_eq] at hc770
    exact absurd rfl hc770

set_option maxHeartbeats 4000000 in
set_option maxRecDepth 100000 in
theorem ls_15 {pg : Program} {l : Launch} {ev : Env} {s : State} {mi : MethodId} {below : List Frame} {meth : Method} {co : Code} {b L : Nat} {xs : Nat → Int32} {H : Heap} {locs : List Loc} {Q : State → Prop} {dC : Nat → ClassId} {dI : Nat → Nat → Nat} {h0 q0 h1 q1 : Nat} {cA cB : ClassId} {w0 : Cond} {i p q cx rd cl tt cd bx : Nat} {g : Nat → Nat} {ls : Array Slot} (hx : pg.tables.exec = Jvm.exec) (hb : co.code = code) (hml : co.maxLocals = 4) (hown : s.vm.findClass R_L = some mi.cls) (hts : ∀ w ∈ w0 :: al_w, w.before #[Value.ref b] s = true) (hX : va_X b L xs s s.heap) (hbl : b < s.heap.size) (hKX : va_K (dC, dI) classes [(cA, .long)] s) (hKM : va_K (dC, dI) classes [(cB, .long)] s) (hap : lw_ap s.heap.size h0 q0 h1 q1) (hL : L ≤ 2560) (hi : i + 5 ≤ L) (hI : LI p q cx rd cl tt cd bx g) (hl : lv_has ls 4 [(3, .int (nI i)), (2, .ref h1), (1, .ref h0), (0, .ref b)]) (hPX : va_P (dC, dI) classes [(h0, .inr (0, [.int (nI p), .int (nI q), .int (nI (p * q)), .long (lN (p * q * (p * q))), .long (lN (sp_f p q)), .long (lN (sp_inv p q)), .long (lN (sp_cex p q)), .int (nI cx), .int (nI rd), .int (nI cl), .long (lN tt), .int (nI (sp_cnt g 30)), .ref q0])), (q0, .inl (cA, 30, .inr (.inl (fun j => lN (g j)))))] H) (hPM : va_P (dC, dI) classes [(h1, .inr (1, [.long (lN (p * q)), .long (lN (p * q * (p * q))), .long (lN (sp_f p q)), .long (lN (sp_cex p q)), .int (nI bx), .int (nI cl), .int (nI cd), .int (nI rd), .ref q1])), (q1, .inl (cB, 30, .inr (.inl (fun j => lN (g j)))))] H) (hS : va_S (fun q => s.heap.size ≤ q) s.heap H locs) (kk : ∀ (p q cx rd cl tt cd bx : Nat) (g : Nat → Nat) (H : Heap) (locs : List Loc), va_P (dC, dI) classes [(h0, .inr (0, [.int (nI p), .int (nI q), .int (nI (p * q)), .long (lN (p * q * (p * q))), .long (lN (sp_f p q)), .long (lN (sp_inv p q)), .long (lN (sp_cex p q)), .int (nI cx), .int (nI rd), .int (nI cl), .long (lN tt), .int (nI (sp_cnt g 30)), .ref q0])), (q0, .inl (cA, 30, .inr (.inl (fun j => lN (g j)))))] H → va_P (dC, dI) classes [(h1, .inr (1, [.long (lN (p * q)), .long (lN (p * q * (p * q))), .long (lN (sp_f p q)), .long (lN (sp_cex p q)), .int (nI bx), .int (nI cl), .int (nI cd), .int (nI rd), .ref q1])), (q1, .inl (cB, 30, .inr (.inl (fun j => lN (g j)))))] H → va_S (fun q => s.heap.size ≤ q) s.heap H locs → LI p q cx rd cl tt cd bx g → W pg l ev room_1 s mi #[Value.ref b] below meth co H locs 4 82 Q (F0 mi 905 ls [])) : W pg l ev room_1 s mi #[Value.ref b] below meth co H locs 4 82 Q (F0 mi 775 ls []) := by
  refine lv_aload_n hx hb d_L_law_775 rfl (lv_at hl 2 rfl) ?_
  refine lv_aload_n hx hb d_L_law_776 rfl (lv_at hl 3 rfl) ?_
  refine lv_iload_n hx hb d_L_law_777 rfl (lv_at hl 0 rfl) ?_
  refine lv_iconst (v := nI 1) hx hb d_L_law_778 (by decide) ?_
  refine lv_iadd hx hb d_L_law_779 ?_
  refine wk_i (y := nI (i + 1)) (nI_add i 1) ?_
  refine va_sld hx hb hX hbl (Nat.not_le.mpr hbl) hS (vp_in_nI (by omega) (by omega)) d_L_law_780 ?_
  refine wk_i (y := xs (i + 1)) (by rw [nI_clamp (by omega)]) ?_
  refine pu_i (va_runV (As := [.int (xs (i + 1))]) (rest := []) ⟨hx, hb, hml, hown, hts⟩ (c_X_votes l dC dI h0 q0 cA p q cx rd cl tt (sp_cnt g 30) g (xs (i + 1)) hI.1 hI.2.1 hI.2.2.1 hI.2.2.2.1) (cwV 1 hts (al_V (k_X_votes) (aw_t189) (aw_t190) (aw_t191) (aw_t1)) rfl rfl rfl (by decide +kernel) ⟨Nat.le_of_ble_eq_true rfl, Nat.le_of_ble_eq_true rfl⟩) (pu_preV (q0 := 0) (ci := 0) hKX hPX rfl rfl) rfl rfl hl.1 rfl (lv_room (Nat.le_of_ble_eq_true rfl)) d_L_law_781 ⟨Nat.le_of_ble_eq_true rfl, Nat.le_of_ble_eq_true rfl⟩) hS (fun H locs hkp hS => ?_)
  have hPX := hkp _ _ _ hPX
  have hPM := hkp _ _ _ hPM
  refine lv_aload_n hx hb d_L_law_784 rfl (lv_at hl 1 rfl) ?_
  refine lv_aload_n hx hb d_L_law_785 rfl (lv_at hl 3 rfl) ?_
  refine lv_iload_n hx hb d_L_law_786 rfl (lv_at hl 0 rfl) ?_
  refine lv_iconst (v := nI 1) hx hb d_L_law_787 (by decide) ?_
  refine lv_iadd hx hb d_L_law_788 ?_
  refine wk_i (y := nI (i + 1)) (nI_add i 1) ?_
  refine va_sld hx hb hX hbl (Nat.not_le.mpr hbl) hS (vp_in_nI (by omega) (by omega)) d_L_law_789 ?_
  refine wk_i (y := xs (i + 1)) (by rw [nI_clamp (by omega)]) ?_
  refine pu_i (va_runV (As := [.int (xs (i + 1))]) (rest := [.int (an_votes p q cx rd cl g (xs (i + 1)))]) ⟨hx, hb, hml, hown, hts⟩ (c_M_votes l dC dI h1 q1 cB p q bx cl cd rd g (xs (i + 1)) cx hI.1 hI.2.1 hI.2.2.2.2.1 hI.2.2.2.2.2.1 hI.2.2.2.2.2.2 hI.2.2.1) (cwV 1 hts (al_V (k_M_votes) (aw_t346) (aw_t347) (aw_t348) (aw_t2)) rfl rfl rfl (by decide +kernel) ⟨Nat.le_of_ble_eq_true rfl, Nat.le_of_ble_eq_true rfl⟩) (pu_preV (q0 := 0) (ci := 1) hKM hPM rfl rfl) rfl rfl hl.1 rfl (lv_room (Nat.le_of_ble_eq_true rfl)) d_L_law_790 ⟨Nat.le_of_ble_eq_true rfl, Nat.le_of_ble_eq_true rfl⟩) hS (fun H locs hkp hS => ?_)
  have hPX := hkp _ _ _ hPX
  have hPM := hkp _ _ _ hPM
  refine lv_icmp_eq (tgt := 905) hx hb d_L_law_793 (by decide) (fun hc793 => ?_) (fun hc793 => ?_)
  · skip
    exact kk p q cx rd cl tt cd bx g H locs hPX hPM hS (hI)
  · skip
    exact absurd rfl hc793

set_option maxHeartbeats 4000000 in
set_option maxRecDepth 100000 in
theorem ls_16 {pg : Program} {l : Launch} {ev : Env} {s : State} {mi : MethodId} {below : List Frame} {meth : Method} {co : Code} {b L : Nat} {xs : Nat → Int32} {H : Heap} {locs : List Loc} {Q : State → Prop} {dC : Nat → ClassId} {dI : Nat → Nat → Nat} {h0 q0 h1 q1 : Nat} {cA cB : ClassId} {w0 : Cond} {i p q cx rd cl tt cd bx : Nat} {g : Nat → Nat} {ls : Array Slot} (hx : pg.tables.exec = Jvm.exec) (hb : co.code = code) (hml : co.maxLocals = 4) (hown : s.vm.findClass R_L = some mi.cls) (hts : ∀ w ∈ w0 :: al_w, w.before #[Value.ref b] s = true) (hX : va_X b L xs s s.heap) (hbl : b < s.heap.size) (hKX : va_K (dC, dI) classes [(cA, .long)] s) (hKM : va_K (dC, dI) classes [(cB, .long)] s) (hap : lw_ap s.heap.size h0 q0 h1 q1) (hL : L ≤ 2560) (hi : i + 5 ≤ L) (hI : LI p q cx rd cl tt cd bx g) (hl : lv_has ls 4 [(3, .int (nI i)), (2, .ref h1), (1, .ref h0), (0, .ref b)]) (hPX : va_P (dC, dI) classes [(h0, .inr (0, [.int (nI p), .int (nI q), .int (nI (p * q)), .long (lN (p * q * (p * q))), .long (lN (sp_f p q)), .long (lN (sp_inv p q)), .long (lN (sp_cex p q)), .int (nI cx), .int (nI rd), .int (nI cl), .long (lN tt), .int (nI (sp_cnt g 30)), .ref q0])), (q0, .inl (cA, 30, .inr (.inl (fun j => lN (g j)))))] H) (hPM : va_P (dC, dI) classes [(h1, .inr (1, [.long (lN (p * q)), .long (lN (p * q * (p * q))), .long (lN (sp_f p q)), .long (lN (sp_cex p q)), .int (nI bx), .int (nI cl), .int (nI cd), .int (nI rd), .ref q1])), (q1, .inl (cB, 30, .inr (.inl (fun j => lN (g j)))))] H) (hS : va_S (fun q => s.heap.size ≤ q) s.heap H locs) (kk : ∀ (p q cx rd cl tt cd bx : Nat) (g : Nat → Nat) (H : Heap) (locs : List Loc), va_P (dC, dI) classes [(h0, .inr (0, [.int (nI p), .int (nI q), .int (nI (p * q)), .long (lN (p * q * (p * q))), .long (lN (sp_f p q)), .long (lN (sp_inv p q)), .long (lN (sp_cex p q)), .int (nI cx), .int (nI rd), .int (nI cl), .long (lN tt), .int (nI (sp_cnt g 30)), .ref q0])), (q0, .inl (cA, 30, .inr (.inl (fun j => lN (g j)))))] H → va_P (dC, dI) classes [(h1, .inr (1, [.long (lN (p * q)), .long (lN (p * q * (p * q))), .long (lN (sp_f p q)), .long (lN (sp_cex p q)), .int (nI bx), .int (nI cl), .int (nI cd), .int (nI rd), .ref q1])), (q1, .inl (cB, 30, .inr (.inl (fun j => lN (g j)))))] H → va_S (fun q => s.heap.size ≤ q) s.heap H locs → LI p q cx rd cl tt cd bx g → W pg l ev room_1 s mi #[Value.ref b] below meth co H locs 4 82 Q (F0 mi 905 ls [])) : W pg l ev room_1 s mi #[Value.ref b] below meth co H locs 4 82 Q (F0 mi 798 ls []) := by
  refine lv_aload_n hx hb d_L_law_798 rfl (lv_at hl 2 rfl) ?_
  refine pu_l (va_runV (As := []) (rest := []) ⟨hx, hb, hml, hown, hts⟩ (c_X_witness l dC dI h0 q0 cA p q cx rd cl tt (sp_cnt g 30) g  hI.1 hI.2.2.1) (cwV 0 hts (al_V (k_X_witness) (aw_t193) (aw_t194) (aw_t195) (aw_t1)) rfl rfl rfl (by decide +kernel) ⟨Nat.le_of_ble_eq_true rfl, Nat.le_of_ble_eq_true rfl⟩) (pu_preV (q0 := 0) (ci := 0) hKX hPX rfl rfl) rfl rfl hl.1 rfl (lv_room (Nat.le_of_ble_eq_true rfl)) d_L_law_799 ⟨Nat.le_of_ble_eq_true rfl, Nat.le_of_ble_eq_true rfl⟩) hS (fun H locs hkp hS => ?_)
  have hPX := hkp _ _ _ hPX
  have hPM := hkp _ _ _ hPM
  refine lv_aload_n hx hb d_L_law_802 rfl (lv_at hl 1 rfl) ?_
  refine pu_l (va_runV (As := []) (rest := [.long (an_witness p q cx cl g)]) ⟨hx, hb, hml, hown, hts⟩ (c_M_witness l dC dI h1 q1 cB p q bx cl cd rd g  cx hI.1 hI.2.1 hI.2.2.2.2.1 hI.2.2.2.2.2.1 hI.2.2.2.2.2.2 hI.2.2.1) (cwV 0 hts (al_V (k_M_witness) (aw_t350) (aw_t351) (aw_t352) (aw_t2)) rfl rfl rfl (by decide +kernel) ⟨Nat.le_of_ble_eq_true rfl, Nat.le_of_ble_eq_true rfl⟩) (pu_preV (q0 := 0) (ci := 1) hKM hPM rfl rfl) rfl rfl hl.1 rfl (lv_room (Nat.le_of_ble_eq_true rfl)) d_L_law_803 ⟨Nat.le_of_ble_eq_true rfl, Nat.le_of_ble_eq_true rfl⟩) hS (fun H locs hkp hS => ?_)
  have hPX := hkp _ _ _ hPX
  have hPM := hkp _ _ _ hPM
  refine W.lcmp hx hb d_L_law_806 ?_
  refine lv_if_eq (tgt := 905) hx hb d_L_law_807 (by decide) (fun hc807 => ?_) (fun hc807 => ?_)
  · skip
    rw [lg_cmp_eq] at hc807
    exact kk p q cx rd cl tt cd bx g H locs hPX hPM hS (hI)
  · skip
    rw [lg_cmp_eq] at hc807
    exact absurd rfl hc807

set_option maxHeartbeats 4000000 in
set_option maxRecDepth 100000 in
theorem ls_17 {pg : Program} {l : Launch} {ev : Env} {s : State} {mi : MethodId} {below : List Frame} {meth : Method} {co : Code} {b L : Nat} {xs : Nat → Int32} {H : Heap} {locs : List Loc} {Q : State → Prop} {dC : Nat → ClassId} {dI : Nat → Nat → Nat} {h0 q0 h1 q1 : Nat} {cA cB : ClassId} {w0 : Cond} {i p q cx rd cl tt cd bx : Nat} {g : Nat → Nat} {ls : Array Slot} (hx : pg.tables.exec = Jvm.exec) (hb : co.code = code) (hml : co.maxLocals = 4) (hown : s.vm.findClass R_L = some mi.cls) (hts : ∀ w ∈ w0 :: al_w, w.before #[Value.ref b] s = true) (hX : va_X b L xs s s.heap) (hbl : b < s.heap.size) (hKX : va_K (dC, dI) classes [(cA, .long)] s) (hKM : va_K (dC, dI) classes [(cB, .long)] s) (hap : lw_ap s.heap.size h0 q0 h1 q1) (hL : L ≤ 2560) (hi : i + 5 ≤ L) (hI : LI p q cx rd cl tt cd bx g) (hl : lv_has ls 4 [(3, .int (nI i)), (2, .ref h1), (1, .ref h0), (0, .ref b)]) (hPX : va_P (dC, dI) classes [(h0, .inr (0, [.int (nI p), .int (nI q), .int (nI (p * q)), .long (lN (p * q * (p * q))), .long (lN (sp_f p q)), .long (lN (sp_inv p q)), .long (lN (sp_cex p q)), .int (nI cx), .int (nI rd), .int (nI cl), .long (lN tt), .int (nI (sp_cnt g 30)), .ref q0])), (q0, .inl (cA, 30, .inr (.inl (fun j => lN (g j)))))] H) (hPM : va_P (dC, dI) classes [(h1, .inr (1, [.long (lN (p * q)), .long (lN (p * q * (p * q))), .long (lN (sp_f p q)), .long (lN (sp_cex p q)), .int (nI bx), .int (nI cl), .int (nI cd), .int (nI rd), .ref q1])), (q1, .inl (cB, 30, .inr (.inl (fun j => lN (g j)))))] H) (hS : va_S (fun q => s.heap.size ≤ q) s.heap H locs) (kk : ∀ (p q cx rd cl tt cd bx : Nat) (g : Nat → Nat) (H : Heap) (locs : List Loc), va_P (dC, dI) classes [(h0, .inr (0, [.int (nI p), .int (nI q), .int (nI (p * q)), .long (lN (p * q * (p * q))), .long (lN (sp_f p q)), .long (lN (sp_inv p q)), .long (lN (sp_cex p q)), .int (nI cx), .int (nI rd), .int (nI cl), .long (lN tt), .int (nI (sp_cnt g 30)), .ref q0])), (q0, .inl (cA, 30, .inr (.inl (fun j => lN (g j)))))] H → va_P (dC, dI) classes [(h1, .inr (1, [.long (lN (p * q)), .long (lN (p * q * (p * q))), .long (lN (sp_f p q)), .long (lN (sp_cex p q)), .int (nI bx), .int (nI cl), .int (nI cd), .int (nI rd), .ref q1])), (q1, .inl (cB, 30, .inr (.inl (fun j => lN (g j)))))] H → va_S (fun q => s.heap.size ≤ q) s.heap H locs → LI p q cx rd cl tt cd bx g → W pg l ev room_1 s mi #[Value.ref b] below meth co H locs 4 82 Q (F0 mi 905 ls [])) : W pg l ev room_1 s mi #[Value.ref b] below meth co H locs 4 82 Q (F0 mi 812 ls []) := by
  refine lv_aload_n hx hb d_L_law_812 rfl (lv_at hl 2 rfl) ?_
  refine lv_aload_n hx hb d_L_law_813 rfl (lv_at hl 3 rfl) ?_
  refine lv_iload_n hx hb d_L_law_814 rfl (lv_at hl 0 rfl) ?_
  refine lv_iconst (v := nI 1) hx hb d_L_law_815 (by decide) ?_
  refine lv_iadd hx hb d_L_law_816 ?_
  refine wk_i (y := nI (i + 1)) (nI_add i 1) ?_
  refine va_sld hx hb hX hbl (Nat.not_le.mpr hbl) hS (vp_in_nI (by omega) (by omega)) d_L_law_817 ?_
  refine wk_i (y := xs (i + 1)) (by rw [nI_clamp (by omega)]) ?_
  refine lv_i2l (v := Int32.toInt64 (xs (i + 1))) hx hb d_L_law_818 (rfl) ?_
  refine lv_bipush (v := nI 32) hx hb d_L_law_819 (by decide) ?_
  refine lv_lshl (v := (Int32.toInt64 (xs (i + 1))) <<< (Int32.toInt64 (nI 32) &&& 63)) hx hb d_L_law_821 (rfl) ?_
  refine lv_aload_n hx hb d_L_law_822 rfl (lv_at hl 3 rfl) ?_
  refine lv_iload_n hx hb d_L_law_823 rfl (lv_at hl 0 rfl) ?_
  refine lv_iconst (v := nI 2) hx hb d_L_law_824 (by decide) ?_
  refine lv_iadd hx hb d_L_law_825 ?_
  refine wk_i (y := nI (i + 2)) (nI_add i 2) ?_
  refine va_sld hx hb hX hbl (Nat.not_le.mpr hbl) hS (vp_in_nI (by omega) (by omega)) d_L_law_826 ?_
  refine wk_i (y := xs (i + 2)) (by rw [nI_clamp (by omega)]) ?_
  refine lv_i2l (v := Int32.toInt64 (xs (i + 2))) hx hb d_L_law_827 (rfl) ?_
  refine lv_ldc2 (v := lN 4294967295) hx hb hown (hts _ (al_m aw_t358)) d_L_law_828 ?_
  refine lv_land hx hb d_L_law_831 ?_
  refine lv_lor hx hb d_L_law_832 ?_
  refine wk_l (y := lb (xs (i + 1)) (xs (i + 2))) rfl ?_
  refine lv_aload_n hx hb d_L_law_833 rfl (lv_at hl 3 rfl) ?_
  refine lv_iload_n hx hb d_L_law_834 rfl (lv_at hl 0 rfl) ?_
  refine lv_iconst (v := nI 3) hx hb d_L_law_835 (by decide) ?_
  refine lv_iadd hx hb d_L_law_836 ?_
  refine wk_i (y := nI (i + 3)) (nI_add i 3) ?_
  refine va_sld hx hb hX hbl (Nat.not_le.mpr hbl) hS (vp_in_nI (by omega) (by omega)) d_L_law_837 ?_
  refine wk_i (y := xs (i + 3)) (by rw [nI_clamp (by omega)]) ?_
  refine lv_i2l (v := Int32.toInt64 (xs (i + 3))) hx hb d_L_law_838 (rfl) ?_
  refine lv_bipush (v := nI 32) hx hb d_L_law_839 (by decide) ?_
  refine lv_lshl (v := (Int32.toInt64 (xs (i + 3))) <<< (Int32.toInt64 (nI 32) &&& 63)) hx hb d_L_law_841 (rfl) ?_
  refine lv_aload_n hx hb d_L_law_842 rfl (lv_at hl 3 rfl) ?_
  refine lv_iload_n hx hb d_L_law_843 rfl (lv_at hl 0 rfl) ?_
  refine lv_iconst (v := nI 4) hx hb d_L_law_844 (by decide) ?_
  refine lv_iadd hx hb d_L_law_845 ?_
  refine wk_i (y := nI (i + 4)) (nI_add i 4) ?_
  refine va_sld hx hb hX hbl (Nat.not_le.mpr hbl) hS (vp_in_nI (by omega) (by omega)) d_L_law_846 ?_
  refine wk_i (y := xs (i + 4)) (by rw [nI_clamp (by omega)]) ?_
  refine lv_i2l (v := Int32.toInt64 (xs (i + 4))) hx hb d_L_law_847 (rfl) ?_
  refine lv_ldc2 (v := lN 4294967295) hx hb hown (hts _ (al_m aw_t358)) d_L_law_848 ?_
  refine lv_land hx hb d_L_law_851 ?_
  refine lv_lor hx hb d_L_law_852 ?_
  refine wk_l (y := lb (xs (i + 3)) (xs (i + 4))) rfl ?_
  refine pu_i (va_runV (As := [.long (lb (xs (i + 1)) (xs (i + 2))), .long (lb (xs (i + 3)) (xs (i + 4)))]) (rest := []) ⟨hx, hb, hml, hown, hts⟩ (c_X_check l dC dI h0 q0 cA p q cx rd cl tt (sp_cnt g 30) g (lb (xs (i + 1)) (xs (i + 2))) (lb (xs (i + 3)) (xs (i + 4))) hI.1 hI.2.1) (cwV 2 hts (al_V (k_X_check) (aw_t197) (aw_t198) (aw_t199) (aw_t1)) rfl rfl rfl (by decide +kernel) ⟨Nat.le_of_ble_eq_true rfl, Nat.le_of_ble_eq_true rfl⟩) (pu_preV (q0 := 0) (ci := 0) hKX hPX rfl rfl) rfl rfl hl.1 rfl (lv_room (Nat.le_of_ble_eq_true rfl)) d_L_law_853 ⟨Nat.le_of_ble_eq_true rfl, Nat.le_of_ble_eq_true rfl⟩) hS (fun H locs hkp hS => ?_)
  have hPX := hkp _ _ _ hPX
  have hPM := hkp _ _ _ hPM
  refine lv_aload_n hx hb d_L_law_856 rfl (lv_at hl 1 rfl) ?_
  refine lv_aload_n hx hb d_L_law_857 rfl (lv_at hl 3 rfl) ?_
  refine lv_iload_n hx hb d_L_law_858 rfl (lv_at hl 0 rfl) ?_
  refine lv_iconst (v := nI 1) hx hb d_L_law_859 (by decide) ?_
  refine lv_iadd hx hb d_L_law_860 ?_
  refine wk_i (y := nI (i + 1)) (nI_add i 1) ?_
  refine va_sld hx hb hX hbl (Nat.not_le.mpr hbl) hS (vp_in_nI (by omega) (by omega)) d_L_law_861 ?_
  refine wk_i (y := xs (i + 1)) (by rw [nI_clamp (by omega)]) ?_
  refine lv_i2l (v := Int32.toInt64 (xs (i + 1))) hx hb d_L_law_862 (rfl) ?_
  refine lv_bipush (v := nI 32) hx hb d_L_law_863 (by decide) ?_
  refine lv_lshl (v := (Int32.toInt64 (xs (i + 1))) <<< (Int32.toInt64 (nI 32) &&& 63)) hx hb d_L_law_865 (rfl) ?_
  refine lv_aload_n hx hb d_L_law_866 rfl (lv_at hl 3 rfl) ?_
  refine lv_iload_n hx hb d_L_law_867 rfl (lv_at hl 0 rfl) ?_
  refine lv_iconst (v := nI 2) hx hb d_L_law_868 (by decide) ?_
  refine lv_iadd hx hb d_L_law_869 ?_
  refine wk_i (y := nI (i + 2)) (nI_add i 2) ?_
  refine va_sld hx hb hX hbl (Nat.not_le.mpr hbl) hS (vp_in_nI (by omega) (by omega)) d_L_law_870 ?_
  refine wk_i (y := xs (i + 2)) (by rw [nI_clamp (by omega)]) ?_
  refine lv_i2l (v := Int32.toInt64 (xs (i + 2))) hx hb d_L_law_871 (rfl) ?_
  refine lv_ldc2 (v := lN 4294967295) hx hb hown (hts _ (al_m aw_t358)) d_L_law_872 ?_
  refine lv_land hx hb d_L_law_875 ?_
  refine lv_lor hx hb d_L_law_876 ?_
  refine wk_l (y := lb (xs (i + 1)) (xs (i + 2))) rfl ?_
  refine lv_aload_n hx hb d_L_law_877 rfl (lv_at hl 3 rfl) ?_
  refine lv_iload_n hx hb d_L_law_878 rfl (lv_at hl 0 rfl) ?_
  refine lv_iconst (v := nI 3) hx hb d_L_law_879 (by decide) ?_
  refine lv_iadd hx hb d_L_law_880 ?_
  refine wk_i (y := nI (i + 3)) (nI_add i 3) ?_
  refine va_sld hx hb hX hbl (Nat.not_le.mpr hbl) hS (vp_in_nI (by omega) (by omega)) d_L_law_881 ?_
  refine wk_i (y := xs (i + 3)) (by rw [nI_clamp (by omega)]) ?_
  refine lv_i2l (v := Int32.toInt64 (xs (i + 3))) hx hb d_L_law_882 (rfl) ?_
  refine lv_bipush (v := nI 32) hx hb d_L_law_883 (by decide) ?_
  refine lv_lshl (v := (Int32.toInt64 (xs (i + 3))) <<< (Int32.toInt64 (nI 32) &&& 63)) hx hb d_L_law_885 (rfl) ?_
  refine lv_aload_n hx hb d_L_law_886 rfl (lv_at hl 3 rfl) ?_
  refine lv_iload_n hx hb d_L_law_887 rfl (lv_at hl 0 rfl) ?_
  refine lv_iconst (v := nI 4) hx hb d_L_law_888 (by decide) ?_
  refine lv_iadd hx hb d_L_law_889 ?_
  refine wk_i (y := nI (i + 4)) (nI_add i 4) ?_
  refine va_sld hx hb hX hbl (Nat.not_le.mpr hbl) hS (vp_in_nI (by omega) (by omega)) d_L_law_890 ?_
  refine wk_i (y := xs (i + 4)) (by rw [nI_clamp (by omega)]) ?_
  refine lv_i2l (v := Int32.toInt64 (xs (i + 4))) hx hb d_L_law_891 (rfl) ?_
  refine lv_ldc2 (v := lN 4294967295) hx hb hown (hts _ (al_m aw_t358)) d_L_law_892 ?_
  refine lv_land hx hb d_L_law_895 ?_
  refine lv_lor hx hb d_L_law_896 ?_
  refine wk_l (y := lb (xs (i + 3)) (xs (i + 4))) rfl ?_
  refine pu_i (va_runV (As := [.long (lb (xs (i + 1)) (xs (i + 2))), .long (lb (xs (i + 3)) (xs (i + 4)))]) (rest := [.int (bI (an_check p q cx g (lb (xs (i + 1)) (xs (i + 2))) (lb (xs (i + 3)) (xs (i + 4)))))]) ⟨hx, hb, hml, hown, hts⟩ (c_M_check l dC dI h1 q1 cB p q bx cl cd rd g (lb (xs (i + 1)) (xs (i + 2))) (lb (xs (i + 3)) (xs (i + 4))) cx hI.1 hI.2.1 hI.2.2.2.2.1 hI.2.2.2.2.2.1 hI.2.2.2.2.2.2 hI.2.2.1) (cwV 2 hts (al_V (k_M_check) (aw_t354) (aw_t355) (aw_t356) (aw_t2)) rfl rfl rfl (by decide +kernel) ⟨Nat.le_of_ble_eq_true rfl, Nat.le_of_ble_eq_true rfl⟩) (pu_preV (q0 := 0) (ci := 1) hKM hPM rfl rfl) rfl rfl hl.1 rfl (lv_room (Nat.le_of_ble_eq_true rfl)) d_L_law_897 ⟨Nat.le_of_ble_eq_true rfl, Nat.le_of_ble_eq_true rfl⟩) hS (fun H locs hkp hS => ?_)
  have hPX := hkp _ _ _ hPX
  have hPM := hkp _ _ _ hPM
  refine lv_icmp_eq (tgt := 905) hx hb d_L_law_900 (by decide) (fun hc900 => ?_) (fun hc900 => ?_)
  · skip
    exact kk p q cx rd cl tt cd bx g H locs hPX hPM hS (hI)
  · skip
    exact absurd rfl hc900
