theorem lw_le {L i : Nat} (hL : L ≤ 2560) (hi : i ≤ L) (h : ¬ Int32.ofNat L - nI 5 < nI i) : i + 5 ≤ L := by
  rw [Int32.lt_iff_toInt_lt, show (Int32.ofNat L - nI 5 : Int32) = nI L - nI 5 from rfl, pk_sub_toInt (by omega) (by omega), nI_toInt (by omega)] at h
  omega
set_option maxHeartbeats 4000000 in
set_option maxRecDepth 100000 in
theorem lw_lp {pg : Program} {l : Launch} {ev : Env} {s : State} {mi : MethodId} {below : List Frame} {meth : Method} {co : Code} {b L : Nat} {xs : Nat → Int32} {Q : State → Prop} {dC : Nat → ClassId} {dI : Nat → Nat → Nat} {h0 q0 h1 q1 : Nat} {cA cB : ClassId} {w0 : Cond} (hx : pg.tables.exec = Jvm.exec) (hb : co.code = code) (hml : co.maxLocals = 4) (hown : s.vm.findClass R_L = some mi.cls) (hts : ∀ w ∈ w0 :: al_w, w.before #[Value.ref b] s = true) (hX : va_X b L xs s s.heap) (hbl : b < s.heap.size) (hKX : va_K (dC, dI) classes [(cA, .long)] s) (hKM : va_K (dC, dI) classes [(cB, .long)] s) (hap : lw_ap s.heap.size h0 q0 h1 q1) (hL : L ≤ 2560) (kend : ∀ (H : Heap) (locs : List Loc) (ls : Array Slot), va_S (fun q => s.heap.size ≤ q) s.heap H locs → W pg l ev room_1 s mi #[Value.ref b] below meth co H locs 4 82 Q (F0 mi 911 ls [])) : ∀ (mz : Nat) (i p q cx rd cl tt cd bx : Nat) (g : Nat → Nat) (H : Heap) (locs : List Loc) (ls : Array Slot), lv_has ls 4 [(3, .int (nI i)), (2, .ref h1), (1, .ref h0), (0, .ref b)] → va_P (dC, dI) classes [(h0, .inr (0, [.int (nI p), .int (nI q), .int (nI (p * q)), .long (lN (p * q * (p * q))), .long (lN (sp_f p q)), .long (lN (sp_inv p q)), .long (lN (sp_cex p q)), .int (nI cx), .int (nI rd), .int (nI cl), .long (lN tt), .int (nI (sp_cnt g 30)), .ref q0])), (q0, .inl (cA, 30, .inr (.inl (fun j => lN (g j)))))] H → va_P (dC, dI) classes [(h1, .inr (1, [.long (lN (p * q)), .long (lN (p * q * (p * q))), .long (lN (sp_f p q)), .long (lN (sp_cex p q)), .int (nI bx), .int (nI cl), .int (nI cd), .int (nI rd), .ref q1])), (q1, .inl (cB, 30, .inr (.inl (fun j => lN (g j)))))] H → va_S (fun q => s.heap.size ≤ q) s.heap H locs → LI p q cx rd cl tt cd bx g → i ≤ L → L - i = mz → W pg l ev room_1 s mi #[Value.ref b] below meth co H locs 4 82 Q (F0 mi 18 ls []) := by
  intro mz
  induction mz using Nat.strongRecOn with
  | ind mz ih =>
    intro i p q cx rd cl tt cd bx g H locs ls hl hPX hPM hS hI hiL hk
    subst hk
    refine lv_iload_n hx hb d_L_law_18 rfl (lv_at hl 0 rfl) ?_
    refine lv_aload_n hx hb d_L_law_19 rfl (lv_at hl 3 rfl) ?_
    refine va_slen hx hb hX hbl (Nat.not_le.mpr hbl) hS d_L_law_20 ?_
    refine lv_iconst (v := nI 5) hx hb d_L_law_21 (by decide) ?_
    refine lv_isub hx hb d_L_law_22 ?_
    refine lv_icmp_gt (tgt := 911) hx hb d_L_law_23 (by decide) (fun hc => ?_) (fun hc => ?_)
    · exact kend H locs ls hS
    · have hi : i + 5 ≤ L := lw_le hL hiL hc
      refine lv_aload_n hx hb d_L_law_26 rfl (lv_at hl 3 rfl) ?_
      refine lv_iload_n hx hb d_L_law_27 rfl (lv_at hl 0 rfl) ?_
      refine va_sld hx hb hX hbl (Nat.not_le.mpr hbl) hS (vp_in_nI (by omega) (by omega)) d_L_law_28 ?_
      refine lv_bipush (v := nI 31) hx hb d_L_law_29 (by decide) ?_
      refine lv_iand hx hb d_L_law_31 ?_
      obtain ⟨j, hj, ej⟩ := pk_andE (xs (nI i).toNatClampNeg) (m := nI 31) 5 (by decide)
      refine wk_i (y := nI j) ej ?_
      have hnext : ∀ (p q cx rd cl tt cd bx : Nat) (g : Nat → Nat) (H : Heap) (locs : List Loc), va_P (dC, dI) classes [(h0, .inr (0, [.int (nI p), .int (nI q), .int (nI (p * q)), .long (lN (p * q * (p * q))), .long (lN (sp_f p q)), .long (lN (sp_inv p q)), .long (lN (sp_cex p q)), .int (nI cx), .int (nI rd), .int (nI cl), .long (lN tt), .int (nI (sp_cnt g 30)), .ref q0])), (q0, .inl (cA, 30, .inr (.inl (fun j => lN (g j)))))] H → va_P (dC, dI) classes [(h1, .inr (1, [.long (lN (p * q)), .long (lN (p * q * (p * q))), .long (lN (sp_f p q)), .long (lN (sp_cex p q)), .int (nI bx), .int (nI cl), .int (nI cd), .int (nI rd), .ref q1])), (q1, .inl (cB, 30, .inr (.inl (fun j => lN (g j)))))] H → va_S (fun q => s.heap.size ≤ q) s.heap H locs → LI p q cx rd cl tt cd bx g → W pg l ev room_1 s mi #[Value.ref b] below meth co H locs 4 82 Q (F0 mi 905 ls []) := by
        intro p q cx rd cl tt cd bx g H locs hPX hPM hS hI
        refine lv_iinc (k := 0) (v := nI (i + 5)) (lv' := [(3, .int (nI (i + 5))), (2, .ref h1), (1, .ref h0), (0, .ref b)]) hx hb d_L_law_905 hl rfl (ii_5 i) (by decide) rfl (fun ls hl => ?_)
        refine lv_goto (tgt := 18) hx hb d_L_law_908 (by decide) ?_
        exact ih _ (by omega) (i + 5) p q cx rd cl tt cd bx g H locs ls hl hPX hPM hS hI (by omega) rfl
      rcases (show j = 0 ∨ j = 1 ∨ j = 2 ∨ j = 3 ∨ j = 4 ∨ j = 5 ∨ j = 6 ∨ j = 7 ∨ j = 8 ∨ j = 9 ∨ j = 10 ∨ j = 11 ∨ j = 12 ∨ j = 13 ∨ j = 14 ∨ j = 15 ∨ j = 16 ∨ j = 17 ∨ 18 ≤ j by omega) with rfl | rfl | rfl | rfl | rfl | rfl | rfl | rfl | rfl | rfl | rfl | rfl | rfl | rfl | rfl | rfl | rfl | rfl | hj18
      · refine lv_tableIn (tgt := 120) (off := 88) hx hb d_L_law_32 (by decide) (by decide) (by decide) (by decide) ?_
        exact ls_0 hx hb hml hown hts hX hbl hKX hKM hap hL hi hI hl hPX hPM hS hnext
      · refine lv_tableIn (tgt := 153) (off := 121) hx hb d_L_law_32 (by decide) (by decide) (by decide) (by decide) ?_
        exact ls_1 hx hb hml hown hts hX hbl hKX hKM hap hL hi hI hl hPX hPM hS hnext
      · refine lv_tableIn (tgt := 166) (off := 134) hx hb d_L_law_32 (by decide) (by decide) (by decide) (by decide) ?_
        exact ls_2 hx hb hml hown hts hX hbl hKX hKM hap hL hi hI hl hPX hPM hS hnext
      · refine lv_tableIn (tgt := 260) (off := 228) hx hb d_L_law_32 (by decide) (by decide) (by decide) (by decide) ?_
        exact ls_3 hx hb hml hown hts hX hbl hKX hKM hap hL hi hI hl hPX hPM hS hnext
      · refine lv_tableIn (tgt := 314) (off := 282) hx hb d_L_law_32 (by decide) (by decide) (by decide) (by decide) ?_
        exact ls_4 hx hb hml hown hts hX hbl hKX hKM hap hL hi hI hl hPX hPM hS hnext
      · refine lv_tableIn (tgt := 368) (off := 336) hx hb d_L_law_32 (by decide) (by decide) (by decide) (by decide) ?_
        exact ls_5 hx hb hml hown hts hX hbl hKX hKM hap hL hi hI hl hPX hPM hS hnext
      · refine lv_tableIn (tgt := 462) (off := 430) hx hb d_L_law_32 (by decide) (by decide) (by decide) (by decide) ?_
        exact ls_6 hx hb hml hown hts hX hbl hKX hKM hap hL hi hI hl hPX hPM hS hnext
      · refine lv_tableIn (tgt := 526) (off := 494) hx hb d_L_law_32 (by decide) (by decide) (by decide) (by decide) ?_
        exact ls_7 hx hb hml hown hts hX hbl hKX hKM hap hL hi hI hl hPX hPM hS hnext
      · refine lv_tableIn (tgt := 559) (off := 527) hx hb d_L_law_32 (by decide) (by decide) (by decide) (by decide) ?_
        exact ls_8 hx hb hml hown hts hX hbl hKX hKM hap hL hi hI hl hPX hPM hS hnext
      · refine lv_tableIn (tgt := 623) (off := 591) hx hb d_L_law_32 (by decide) (by decide) (by decide) (by decide) ?_
        exact ls_9 hx hb hml hown hts hX hbl hKX hKM hap hL hi hI hl hPX hPM hS hnext
      · refine lv_tableIn (tgt := 686) (off := 654) hx hb d_L_law_32 (by decide) (by decide) (by decide) (by decide) ?_
        exact ls_10 hx hb hml hown hts hX hbl hKX hKM hap hL hi hI hl hPX hPM hS hnext
      · refine lv_tableIn (tgt := 710) (off := 678) hx hb d_L_law_32 (by decide) (by decide) (by decide) (by decide) ?_
        exact ls_11 hx hb hml hown hts hX hbl hKX hKM hap hL hi hI hl hPX hPM hS hnext
      · refine lv_tableIn (tgt := 734) (off := 702) hx hb d_L_law_32 (by decide) (by decide) (by decide) (by decide) ?_
        exact ls_12 hx hb hml hown hts hX hbl hKX hKM hap hL hi hI hl hPX hPM hS hnext
      · refine lv_tableIn (tgt := 747) (off := 715) hx hb d_L_law_32 (by decide) (by decide) (by decide) (by decide) ?_
        exact ls_13 hx hb hml hown hts hX hbl hKX hKM hap hL hi hI hl hPX hPM hS hnext
      · refine lv_tableIn (tgt := 761) (off := 729) hx hb d_L_law_32 (by decide) (by decide) (by decide) (by decide) ?_
        exact ls_14 hx hb hml hown hts hX hbl hKX hKM hap hL hi hI hl hPX hPM hS hnext
      · refine lv_tableIn (tgt := 775) (off := 743) hx hb d_L_law_32 (by decide) (by decide) (by decide) (by decide) ?_
        exact ls_15 hx hb hml hown hts hX hbl hKX hKM hap hL hi hI hl hPX hPM hS hnext
      · refine lv_tableIn (tgt := 798) (off := 766) hx hb d_L_law_32 (by decide) (by decide) (by decide) (by decide) ?_
        exact ls_16 hx hb hml hown hts hX hbl hKX hKM hap hL hi hI hl hPX hPM hS hnext
      · refine lv_tableIn (tgt := 812) (off := 780) hx hb d_L_law_32 (by decide) (by decide) (by decide) (by decide) ?_
        exact ls_17 hx hb hml hown hts hX hbl hKX hKM hap hL hi hI hl hPX hPM hS hnext
      · refine lv_tableOut (tgt := 905) hx hb d_L_law_32 (Or.inr (by rw [nI_toInt (by omega)]; omega)) (by decide) ?_
        exact hnext p q cx rd cl tt cd bx g H locs hPX hPM hS hI
