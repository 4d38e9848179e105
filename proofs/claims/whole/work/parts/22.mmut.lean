section
variable {pg : Program} {l : Launch} {ev : Env} {R : Room} {s : State} {mi : MethodId} {args : Array Value} {below : List Frame} {meth : Method} {co : Code} {H : Heap} {locs : List Loc} {cells slots : Nat} {Q : State → Prop}
set_option maxHeartbeats 4000000 in
set_option maxRecDepth 100000 in
theorem lp_A_fill_6 {q0 : Nat} {cA : ClassId} {g : Nat → Nat} {A0 : Nat → Prop} {H0 : Heap} (hx : pg.tables.exec = Jvm.exec) (hb : co.code = b_A_fill) {w0 : Cond} {dC : Nat → ClassId} {dI : Nat → Nat → Nat} (hts : ∀ w ∈ w0 :: al_w, w.before args s = true) (hown : s.vm.findClass R_A = some mi.cls) (hK : va_K (dC, dI) classes [(cA, .long)] s)  (k22 : ∀ (i : Nat) (H : Heap) (locs : List Loc) (ls : Array Slot), lv_has ls 5 [(3, .int (nI i)), (0, .ref q0), (1, .long (lN 0)), (4, .int (nI 30))] → va_P (dC, dI) classes [(q0, .inl (cA, 30, .inr (.inl (fun j => lN ((fz g i) j)))))] H → va_D A0 [(q0, .inl (cA, 30, .inr (.inl (fun j => lN ((fz g i) j)))))] → va_S A0 H0 H locs → (i = 30) → W pg l ev R s mi args below meth co H locs cells slots Q (F0 mi 22 ls [])) : ∀ (mz : Nat) (i : Nat) (H : Heap) (locs : List Loc) (ls : Array Slot), lv_has ls 5 [(3, .int (nI i)), (0, .ref q0), (1, .long (lN 0)), (4, .int (nI 30))] → va_P (dC, dI) classes [(q0, .inl (cA, 30, .inr (.inl (fun j => lN ((fz g i) j)))))] H → va_D A0 [(q0, .inl (cA, 30, .inr (.inl (fun j => lN ((fz g i) j)))))] → va_S A0 H0 H locs → (i ≤ 30) → 30 - i = mz → W pg l ev R s mi args below meth co H locs cells slots Q (F0 mi 6 ls []) := by
  intro mz
  induction mz using Nat.strongRecOn with
  | ind mz ih =>
    intro i H locs ls hl hP hD hS h1 hk
    subst hk
    refine lv_iload_n hx hb d_A_fill_6 rfl (lv_at hl 0 rfl) ?_
    refine lv_iload hx hb d_A_fill_7 (lv_at hl 3 rfl) ?_
    refine lv_icmp_ge (tgt := 22) hx hb d_A_fill_9 (by decide) (fun hc9 => ?_) (fun hc9 => ?_)
    · skip
      rw [nI_leI (a := 30) (b := i) (by omega) (by omega)] at hc9
      exact k22 i _ _ ls (lv_sub hl [0, 1, 2, 3] rfl) hP hD hS (by omega)
    · skip
      rw [nI_leI (a := 30) (b := i) (by omega) (by omega)] at hc9
      refine lv_aload_n hx hb d_A_fill_12 rfl (lv_at hl 1 rfl) ?_
      refine lv_iload_n hx hb d_A_fill_13 rfl (lv_at hl 0 rfl) ?_
      refine lv_lload_n hx hb d_A_fill_14 rfl (lv_at hl 2 rfl) ?_
      refine va_last hx hb hK hP hD hS 0 0 rfl rfl (vp_in_nI (by omega) (by decide)) d_A_fill_15 (fun H locs hP hD hS => ?_)
      rw [nI_clamp (by omega), gu_eq] at hP hD
      rw [fz_s] at hP hD
      have hP : va_P (dC, dI) classes [(q0, .inl (cA, 30, .inr (.inl (fun j => lN ((fz g (i + 1)) j)))))] H := hP
      have hD : va_D A0 [(q0, .inl (cA, 30, .inr (.inl (fun j => lN ((fz g (i + 1)) j)))))] := hD
      refine lv_iinc (k := 0) (v := nI (i + 1)) (lv' := [(3, .int (nI (i + 1))), (0, .ref q0), (1, .long (lN 0)), (4, .int (nI 30))]) hx hb d_A_fill_16 hl rfl (ii_1 i) (by decide) rfl (fun ls hl => ?_)
      refine lv_goto (tgt := 6) hx hb d_A_fill_19 (by decide) ?_
      exact ih _ (by omega) (i + 1) _ _ ls (lv_sub hl [0, 1, 2, 3] rfl) hP hD hS (by omega) rfl
end

set_option maxHeartbeats 4000000 in
set_option maxRecDepth 100000 in
theorem c_A_fill (l : Launch) (dC : Nat → ClassId) (dI : Nat → Nat → Nat) (q0 : Nat) (cA : ClassId) (g : Nat → Nat)  : Met l y_A_fill w_A_fill ({ frames := 0, cells := 0, slots := 0, locals := 0 }) (va_Pc [.ref q0, .long (lN 0)] (fun U => va_P (dC, dI) classes [(q0, .inl (cA, 30, .inr (.inl (fun j => lN (g j)))))] U.heap ∧ va_K (dC, dI) classes [(cA, .long)] U)) (qmV (dC, dI) classes [(q0, .inl (cA, 30, .inr (.inl (fun j => lN ((fz g 30) j)))))] q0 q0) 0 0 (two q0 q0) := by
  refine va_MetF (cc := b_A_fill) (maxL := 5) (ret := none) (by decide +kernel) rfl ?_
  intro pg ev s mi args below meth co s₁ B hml hv
  obtain ⟨rfl, hP, hK⟩ := hv
  have hx := B.exec
  have hb := B.bytes
  have hr := B.returns
  have hts := atoms_spec (ws := w_A_fill) B.pre
  have hown : s.vm.findClass R_A = some mi.cls := findClass_of_methodNamed B.named
  have hlocks := B.notSynchronized
  have hS : va_S (two q0 q0) s.heap s.heap [] := va_S.rf
  have hP : va_P (dC, dI) classes [(q0, .inl (cA, 30, .inr (.inl (fun j => lN (g j)))))] s.heap := hP
  obtain ⟨A, hAe⟩ : ∃ A : Nat → Prop, A = two q0 q0 := ⟨_, rfl⟩
  rw [← hAe] at hS
  have hD : va_D A [(q0, .inl (cA, 30, .inr (.inl (fun j => lN (g j)))))] := by rw [hAe]; exact mu_D1
  have hl := lv_entry ([.ref q0, .long (lN 0)]) (n := 5) (Nat.le_of_ble_eq_true rfl)
  rw [lg_entry_eq]
  generalize (lg_sl ([.ref q0, .long (lN 0)]) ++ List.replicate (5 - (lg_sl ([.ref q0, .long (lN 0)])).length) Slot.unset).toArray = ls at hl ⊢
  have hl : lv_has ls 5 [(0, .ref q0), (1, .long (lN 0))] := hl
  refine lv_iconst (v := nI 0) hx hb d_A_fill_0 (by decide) ?_
  refine lv_istore_n (lv' := [(3, .int (nI 0)), (0, .ref q0), (1, .long (lN 0))]) hx hb d_A_fill_1 rfl hl (by decide) rfl (fun ls hl => ?_)
  refine lv_aload_n hx hb d_A_fill_2 rfl (lv_at hl 1 rfl) ?_
  refine va_alen (v := nI 30) hx hb hK hP 0 0 rfl rfl rfl d_A_fill_3 ?_
  refine lv_istore (lv' := [(4, .int (nI 30)), (3, .int (nI 0)), (0, .ref q0), (1, .long (lN 0))]) hx hb d_A_fill_4 hl (by decide) rfl (fun ls hl => ?_)
  rw [← fz_0 (g := g)] at hP hD
  refine lp_A_fill_6 hx hb hts hown hK  (fun i H locs ls hl hP hD hS hq => ?_) _ 0 _ _ ls (lv_sub hl [1, 2, 3, 0] rfl) hP hD hS (by omega) rfl
  rw [hq] at hP
  rw [hAe] at hS
  exact mu_vret hx hb hr hP hS d_A_fill_22 hlocks

set_option maxHeartbeats 4000000 in
set_option maxRecDepth 100000 in
theorem c_X_open (l : Launch) (dC : Nat → ClassId) (dI : Nat → Nat → Nat) (h0 q0 : Nat) (cA : ClassId) (p q cx rd cl tt bc : Nat) (g : Nat → Nat) (x y : Int32) (hj : Jv p q cx rd g) (hne : h0 ≠ q0) : Met l y_X_open w_X_open ({ frames := 1, cells := 0, slots := 0, locals := 25 }) (va_Pc [.ref h0, .int x, .int y] (fun U => va_P (dC, dI) classes [(h0, .inr (0, [.int (nI p), .int (nI q), .int (nI (p * q)), .long (lN (p * q * (p * q))), .long (lN (sp_f p q)), .long (lN (sp_inv p q)), .long (lN (sp_cex p q)), .int (nI cx), .int (nI rd), .int (nI cl), .long (lN tt), .int (nI bc), .ref q0])), (q0, .inl (cA, 30, .inr (.inl (fun j => lN (g j)))))] U.heap ∧ va_K (dC, dI) classes [(cA, .long)] U)) (qmI (bI (sp_open p q x y)) (dC, dI) classes [(h0, .inr (0, [.int (nI p), .int (nI q), .int (nI (p * q)), .long (lN (p * q * (p * q))), .long (lN (sp_f p q)), .long (lN (sp_inv p q)), .long (lN (sp_cex p q)), .int (nI (sel (sp_open p q x y) x.toInt.toNat cx)), .int (nI (sel (sp_open p q x y) y.toInt.toNat rd)), .int (nI (sel (sp_open p q x y) 0 cl)), .long (lN tt), .int (nI (sel (sp_open p q x y) 0 bc)), .ref q0])), (q0, .inl (cA, 30, .inr (.inl (fun j => lN ((selg (sp_open p q x y) (fz g 30) g) j)))))] h0 q0) 0 0 (two h0 q0) := by
  refine Met.ofW (cc := b_X_open) (maxL := 3) (ret := some .boolean) (by decide) rfl ?_
  intro pg ev s mi args below meth co s₁ B hml hv
  obtain ⟨rfl, hP, hK⟩ := hv
  have hx := B.exec
  have hb := B.bytes
  have hr := B.returns
  have hts := atoms_spec (ws := w_X_open) B.pre
  have hown : s.vm.findClass R_X = some mi.cls := findClass_of_methodNamed B.named
  have hlocks := B.notSynchronized
  have hS : va_S (two h0 q0) s.heap s.heap [] := va_S.rf
  have hP : va_P (dC, dI) classes [(h0, .inr (0, [.int (nI p), .int (nI q), .int (nI (p * q)), .long (lN (p * q * (p * q))), .long (lN (sp_f p q)), .long (lN (sp_inv p q)), .long (lN (sp_cex p q)), .int (nI cx), .int (nI rd), .int (nI cl), .long (lN tt), .int (nI bc), .ref q0])), (q0, .inl (cA, 30, .inr (.inl (fun j => lN (g j)))))] s.heap := hP
  obtain ⟨A, hAe⟩ : ∃ A : Nat → Prop, A = two h0 q0 := ⟨_, rfl⟩
  rw [← hAe] at hS
  have hD : va_D A [(h0, .inr (0, [.int (nI p), .int (nI q), .int (nI (p * q)), .long (lN (p * q * (p * q))), .long (lN (sp_f p q)), .long (lN (sp_inv p q)), .long (lN (sp_cex p q)), .int (nI cx), .int (nI rd), .int (nI cl), .long (lN tt), .int (nI bc), .ref q0])), (q0, .inl (cA, 30, .inr (.inl (fun j => lN (g j)))))] := by rw [hAe]; exact mu_D hne
  have hl := lv_entry ([.ref h0, .int x, .int y]) (n := 3) (Nat.le_of_ble_eq_true rfl)
  rw [lg_entry_eq]
  generalize (lg_sl ([.ref h0, .int x, .int y]) ++ List.replicate (3 - (lg_sl ([.ref h0, .int x, .int y])).length) Slot.unset).toArray = ls at hl ⊢
  have hl : lv_has ls 3 [(0, .ref h0), (1, .int x), (2, .int y)] := hl
  have hjn := jv_n hj
  refine lv_aload_n hx hb d_X_open_0 rfl (lv_at hl 0 rfl) ?_
  refine pu_i (va_runV (As := []) (rest := []) ⟨hx, hb, hml, hown, hts⟩ (c_X_hasKey l dC dI h0 q0 cA p q cx rd cl tt bc g (by omega)) (cwV 0 hts (al_V (k_X_hasKey) (aw_t75) (aw_t77) (aw_p0) (aw_t1)) rfl rfl rfl (by decide +kernel) ⟨Nat.le_of_ble_eq_true rfl, Nat.le_of_ble_eq_true rfl⟩) (pu_preV (q0 := 0) (ci := 0) hK hP rfl rfl) rfl rfl hl.1 rfl (lv_room (Nat.le_of_ble_eq_true rfl)) d_X_open_1 ⟨Nat.zero_le _, Nat.zero_le _⟩) hS (fun H locs hkp hS => ?_)
  have hP := hkp _ _ _ hP
  refine lv_if_eq (tgt := 16) hx hb d_X_open_4 (by decide) (fun hc4 => ?_) (fun hc4 => ?_)
  · skip
    rw [bI_0] at hc4
    have hp0 := jv_f hj hc4
    have ho : sp_open p q x y = false := by simp [sp_open, hp0]
    refine lv_iconst (v := nI 0) hx hb d_X_open_16 (by decide) ?_
    rw [hAe] at hS
    exact mu_zret hx hb hr (by decide) (by simp only [ho, sel_f, selg_f]; exact hP) hS d_X_open_17 hlocks (by rw [ho]; decide)
  · skip
    rw [bI_0] at hc4
    rw [Bool.not_eq_false] at hc4
    have hp0 := jv_t hj hc4
    have hk := jv_key hj hp0
    have hbg := ma_big hk
    have hp3 := hk.1.1
    have hq3 := hk.2.1.1
    have hp9 := hk.1.2.1
    have hq9 := hk.2.1.2.1
    have hkf := ma_keyf hk
    refine lv_aload_n hx hb d_X_open_7 rfl (lv_at hl 0 rfl) ?_
    refine lv_iload_n hx hb d_X_open_8 rfl (lv_at hl 1 rfl) ?_
    refine lv_iload_n hx hb d_X_open_9 rfl (lv_at hl 2 rfl) ?_
    refine pu_i (va_runV (As := [.int x, .int y]) (rest := []) ⟨hx, hb, hml, hown, hts⟩ (c_X_isBoxSize l dC dI h0 q0 cA p q cx rd cl tt bc g x y (by omega) (by omega)) (cwV 2 hts (al_V (k_X_isBoxSize) (aw_t132) (aw_t134) (aw_p8) (aw_t1)) rfl rfl rfl (by decide +kernel) ⟨Nat.le_of_ble_eq_true rfl, Nat.le_of_ble_eq_true rfl⟩) (pu_preV (q0 := 0) (ci := 0) hK hP rfl rfl) rfl rfl hl.1 rfl (lv_room (Nat.le_of_ble_eq_true rfl)) d_X_open_10 ⟨Nat.zero_le _, Nat.zero_le _⟩) hS (fun H locs hkp hS => ?_)
    have hP := hkp _ _ _ hP
    refine lv_if_ne (tgt := 18) hx hb d_X_open_13 (by decide) (fun hc13 => ?_) (fun hc13 => ?_)
    · skip
      rw [bI_0] at hc13
      rw [Bool.not_eq_false] at hc13
      have ho : sp_open p q x y = true := by simp [sp_open, hp0, hc13]
      obtain ⟨a, b, ha2, hb2, ha6, hbb, rfl, rfl⟩ := sp_box_of hc13
      refine lv_aload_n hx hb d_X_open_18 rfl (lv_at hl 0 rfl) ?_
      refine lv_iload_n hx hb d_X_open_19 rfl (lv_at hl 1 rfl) ?_
      refine va_put (D := (dC, dI)) (ci := 0) (v := .int (nI a)) (ty := .int) (C := R_X) (T := F_X) (N := 13) hx hb hts f_X t_X t_X_ok n_X hown hK hP hD hS 0 rfl rfl 7 (by decide) (hts _ (al_m aw_t20)) (fun _ h9 => h9) rfl (by decide +kernel) rfl rfl (Nat.le_of_ble_eq_true rfl) d_X_open_20 (fun H locs hP hD hS => ?_)
      have hP : va_P (dC, dI) classes [(h0, .inr (0, [.int (nI p), .int (nI q), .int (nI (p * q)), .long (lN (p * q * (p * q))), .long (lN (sp_f p q)), .long (lN (sp_inv p q)), .long (lN (sp_cex p q)), .int (nI a), .int (nI rd), .int (nI cl), .long (lN tt), .int (nI bc), .ref q0])), (q0, .inl (cA, 30, .inr (.inl (fun j => lN (g j)))))] H := hP
      have hD : va_D A [(h0, .inr (0, [.int (nI p), .int (nI q), .int (nI (p * q)), .long (lN (p * q * (p * q))), .long (lN (sp_f p q)), .long (lN (sp_inv p q)), .long (lN (sp_cex p q)), .int (nI a), .int (nI rd), .int (nI cl), .long (lN tt), .int (nI bc), .ref q0])), (q0, .inl (cA, 30, .inr (.inl (fun j => lN (g j)))))] := hD
      refine lv_aload_n hx hb d_X_open_23 rfl (lv_at hl 0 rfl) ?_
      refine lv_iload_n hx hb d_X_open_24 rfl (lv_at hl 2 rfl) ?_
      refine va_put (D := (dC, dI)) (ci := 0) (v := .int (nI b)) (ty := .int) (C := R_X) (T := F_X) (N := 13) hx hb hts f_X t_X t_X_ok n_X hown hK hP hD hS 0 rfl rfl 8 (by decide) (hts _ (al_m aw_t21)) (fun _ h9 => h9) rfl (by decide +kernel) rfl rfl (Nat.le_of_ble_eq_true rfl) d_X_open_25 (fun H locs hP hD hS => ?_)
      have hP : va_P (dC, dI) classes [(h0, .inr (0, [.int (nI p), .int (nI q), .int (nI (p * q)), .long (lN (p * q * (p * q))), .long (lN (sp_f p q)), .long (lN (sp_inv p q)), .long (lN (sp_cex p q)), .int (nI a), .int (nI b), .int (nI cl), .long (lN tt), .int (nI bc), .ref q0])), (q0, .inl (cA, 30, .inr (.inl (fun j => lN (g j)))))] H := hP
      have hD : va_D A [(h0, .inr (0, [.int (nI p), .int (nI q), .int (nI (p * q)), .long (lN (p * q * (p * q))), .long (lN (sp_f p q)), .long (lN (sp_inv p q)), .long (lN (sp_cex p q)), .int (nI a), .int (nI b), .int (nI cl), .long (lN tt), .int (nI bc), .ref q0])), (q0, .inl (cA, 30, .inr (.inl (fun j => lN (g j)))))] := hD
      refine lv_aload_n hx hb d_X_open_28 rfl (lv_at hl 0 rfl) ?_
      refine lv_iconst (v := nI 0) hx hb d_X_open_29 (by decide) ?_
      refine va_put (D := (dC, dI)) (ci := 0) (v := .int (nI 0)) (ty := .boolean) (C := R_X) (T := F_X) (N := 13) hx hb hts f_X t_X t_X_ok n_X hown hK hP hD hS 0 rfl rfl 9 (by decide) (hts _ (al_m aw_t22)) (fun _ h9 => h9) rfl (by decide +kernel) rfl rfl (Nat.le_of_ble_eq_true rfl) d_X_open_30 (fun H locs hP hD hS => ?_)
      have hP : va_P (dC, dI) classes [(h0, .inr (0, [.int (nI p), .int (nI q), .int (nI (p * q)), .long (lN (p * q * (p * q))), .long (lN (sp_f p q)), .long (lN (sp_inv p q)), .long (lN (sp_cex p q)), .int (nI a), .int (nI b), .int (nI 0), .long (lN tt), .int (nI bc), .ref q0])), (q0, .inl (cA, 30, .inr (.inl (fun j => lN (g j)))))] H := hP
      have hD : va_D A [(h0, .inr (0, [.int (nI p), .int (nI q), .int (nI (p * q)), .long (lN (p * q * (p * q))), .long (lN (sp_f p q)), .long (lN (sp_inv p q)), .long (lN (sp_cex p q)), .int (nI a), .int (nI b), .int (nI 0), .long (lN tt), .int (nI bc), .ref q0])), (q0, .inl (cA, 30, .inr (.inl (fun j => lN (g j)))))] := hD
      refine lv_aload_n hx hb d_X_open_33 rfl (lv_at hl 0 rfl) ?_
      refine lv_iconst (v := nI 0) hx hb d_X_open_34 (by decide) ?_
      refine va_put (D := (dC, dI)) (ci := 0) (v := .int (nI 0)) (ty := .int) (C := R_X) (T := F_X) (N := 13) hx hb hts f_X t_X t_X_ok n_X hown hK hP hD hS 0 rfl rfl 11 (by decide) (hts _ (al_m aw_t24)) (fun _ h9 => h9) rfl (by decide +kernel) rfl rfl (Nat.le_of_ble_eq_true rfl) d_X_open_35 (fun H locs hP hD hS => ?_)
      have hP : va_P (dC, dI) classes [(h0, .inr (0, [.int (nI p), .int (nI q), .int (nI (p * q)), .long (lN (p * q * (p * q))), .long (lN (sp_f p q)), .long (lN (sp_inv p q)), .long (lN (sp_cex p q)), .int (nI a), .int (nI b), .int (nI 0), .long (lN tt), .int (nI 0), .ref q0])), (q0, .inl (cA, 30, .inr (.inl (fun j => lN (g j)))))] H := hP
      have hD : va_D A [(h0, .inr (0, [.int (nI p), .int (nI q), .int (nI (p * q)), .long (lN (p * q * (p * q))), .long (lN (sp_f p q)), .long (lN (sp_inv p q)), .long (lN (sp_cex p q)), .int (nI a), .int (nI b), .int (nI 0), .long (lN tt), .int (nI 0), .ref q0])), (q0, .inl (cA, 30, .inr (.inl (fun j => lN (g j)))))] := hD
      refine lv_aload_n hx hb d_X_open_38 rfl (lv_at hl 0 rfl) ?_
      refine va_get (D := (dC, dI)) (ci := 0) (v := .ref q0) (C := R_X) (T := F_X) (N := 13) hx hb hts f_X hown hK hP 0 rfl rfl 12 (by decide) (hts _ (al_m aw_t25)) (fun _ h9 => h9) rfl d_X_open_39 ?_
      refine lv_lconst (v := lN 0) hx hb d_X_open_42 rfl ?_
      refine mu_v (wo := [(h0, .inr (0, [.int (nI p), .int (nI q), .int (nI (p * q)), .long (lN (p * q * (p * q))), .long (lN (sp_f p q)), .long (lN (sp_inv p q)), .long (lN (sp_cex p q)), .int (nI a), .int (nI b), .int (nI 0), .long (lN tt), .int (nI 0), .ref q0]))]) (va_runS (As := [.ref q0, .long (lN 0)]) (rest := []) ⟨hx, hb, hml, hown, hts⟩ (c_A_fill l dC dI q0 cA g) (va_cwS 2 hts (al_S (k_A_fill) (aw_t136) (aw_t137) (aw_t4)) rfl rfl rfl (by decide +kernel) ⟨Nat.le_of_ble_eq_true rfl, Nat.le_of_ble_eq_true rfl⟩) (mu_preS hK (hP.sub (ws' := [(q0, .inl (cA, 30, .inr (.inl (fun j => lN (g j)))))]) [1] rfl)) rfl rfl hl.1 rfl (lv_room (Nat.le_of_ble_eq_true rfl)) d_X_open_43 ⟨Nat.zero_le _, Nat.zero_le _⟩) hS (by rw [hAe]; exact Or.inr rfl) (by rw [hAe]; exact Or.inr rfl) (mu_o1 hne) (hP.sub [0] rfl) (fun H locs hP2 hO2 hS => ?_)
      have hP : va_P (dC, dI) classes [(h0, .inr (0, [.int (nI p), .int (nI q), .int (nI (p * q)), .long (lN (p * q * (p * q))), .long (lN (sp_f p q)), .long (lN (sp_inv p q)), .long (lN (sp_cex p q)), .int (nI a), .int (nI b), .int (nI 0), .long (lN tt), .int (nI 0), .ref q0])), (q0, .inl (cA, 30, .inr (.inl (fun j => lN ((fz g 30) j)))))] H := hO2.app hP2
      refine lv_iconst (v := nI 1) hx hb d_X_open_46 (by decide) ?_
      rw [hAe] at hS
      exact mu_zret hx hb hr (by decide) (by simp only [ho, sel_t, selg_t, ix_nat ha2, ix_nat hb2]; exact hP) hS d_X_open_47 hlocks (by rw [ho]; decide)
    · skip
      rw [bI_0] at hc13
      have ho : sp_open p q x y = false := by simp [sp_open, hc13]
      refine lv_iconst (v := nI 0) hx hb d_X_open_16 (by decide) ?_
      rw [hAe] at hS
      exact mu_zret hx hb hr (by decide) (by simp only [ho, sel_f, selg_f]; exact hP) hS d_X_open_17 hlocks (by rw [ho]; decide)

section
variable {pg : Program} {l : Launch} {ev : Env} {R : Room} {s : State} {mi : MethodId} {args : Array Value} {below : List Frame} {meth : Method} {co : Code} {H : Heap} {locs : List Loc} {cells slots : Nat} {Q : State → Prop}
set_option maxHeartbeats 4000000 in
set_option maxRecDepth 100000 in
theorem lp_M_key_88 {h1 q1 : Nat} {cB : ClassId} {a b bx cl cd rd : Nat} {g : Nat → Nat} {A0 : Nat → Prop} {H0 : Heap} (hx : pg.tables.exec = Jvm.exec) (hb : co.code = b_M_key) {w0 : Cond} {dC : Nat → ClassId} {dI : Nat → Nat → Nat} (hts : ∀ w ∈ w0 :: al_w, w.before args s = true) (hown : s.vm.findClass R_M = some mi.cls) (hK : va_K (dC, dI) classes [(cB, .long)] s) (hk : ma_K a b) (hbg : 15 ≤ a * b ∧ a * b ≤ 52441 ∧ 4 ≤ sp_f a b ∧ sp_f a b < a * b) (hcl1 : sp_cex a b ≤ sp_f a b) (k131 : ∀ (u : Nat) (H : Heap) (locs : List Loc) (ls : Array Slot), lv_has ls 5 [(3, .long (lN (a * b * u % sp_f a b))), (0, .ref h1), (1, .int (nI a)), (2, .int (nI b))] → va_P (dC, dI) classes [(h1, .inr (1, [.long (lN (a * b)), .long (lN (a * b * (a * b))), .long (lN (sp_f a b)), .long (lN u), .int (nI bx), .int (nI cl), .int (nI cd), .int (nI rd), .ref q1])), (q1, .inl (cB, 30, .inr (.inl (fun j => lN (g j)))))] H → va_D A0 [(h1, .inr (1, [.long (lN (a * b)), .long (lN (a * b * (a * b))), .long (lN (sp_f a b)), .long (lN u), .int (nI bx), .int (nI cl), .int (nI cd), .int (nI rd), .ref q1])), (q1, .inl (cB, 30, .inr (.inl (fun j => lN (g j)))))] → va_S A0 H0 H locs → (u = sp_cex a b) → W pg l ev R s mi args below meth co H locs cells slots Q (F0 mi 131 ls [])) : ∀ (mz : Nat) (u : Nat) (H : Heap) (locs : List Loc) (ls : Array Slot), lv_has ls 5 [(3, .long (lN (a * b * u % sp_f a b))), (0, .ref h1), (1, .int (nI a)), (2, .int (nI b))] → va_P (dC, dI) classes [(h1, .inr (1, [.long (lN (a * b)), .long (lN (a * b * (a * b))), .long (lN (sp_f a b)), .long (lN u), .int (nI bx), .int (nI cl), .int (nI cd), .int (nI rd), .ref q1])), (q1, .inl (cB, 30, .inr (.inl (fun j => lN (g j)))))] H → va_D A0 [(h1, .inr (1, [.long (lN (a * b)), .long (lN (a * b * (a * b))), .long (lN (sp_f a b)), .long (lN u), .int (nI bx), .int (nI cl), .int (nI cd), .int (nI rd), .ref q1])), (q1, .inl (cB, 30, .inr (.inl (fun j => lN (g j)))))] → va_S A0 H0 H locs → (1 ≤ u) → (u ≤ sp_cex a b) → sp_cex a b - u = mz → W pg l ev R s mi args below meth co H locs cells slots Q (F0 mi 88 ls []) := by
  intro mz
  induction mz using Nat.strongRecOn with
  | ind mz ih =>
    intro u H locs ls hl hP hD hS h1_ h2 hk
    subst hk
    have hml : a * b * u % sp_f a b < sp_f a b := Nat.mod_lt _ (by omega)
    refine lv_lload_n hx hb d_M_key_88 rfl (lv_at hl 0 rfl) ?_
    refine lv_lconst (v := lN 1) hx hb d_M_key_89 rfl ?_
    refine W.lcmp hx hb d_M_key_90 ?_
    refine lv_if_eq (tgt := 131) hx hb d_M_key_91 (by decide) (fun hc91 => ?_) (fun hc91 => ?_)
    · skip
      rw [lg_cmp_eq] at hc91
      rw [pk_lEQ (a := a * b * u % sp_f a b) (b := 1) (by omega) (by omega)] at hc91
      exact k131 u _ _ ls (lv_sub hl [0, 1, 2, 3] rfl) hP hD hS (un_eq hk h1_ h2 hc91)
    · skip
      rw [lg_cmp_eq] at hc91
      rw [pk_lEQ (a := a * b * u % sp_f a b) (b := 1) (by omega) (by omega)] at hc91
      have hne : u ≠ sp_cex a b := fun hh => hc91 (by rw [hh]; exact un_cex hk)
      refine lv_aload_n hx hb d_M_key_94 rfl (lv_at hl 1 rfl) ?_
      refine va_get (D := (dC, dI)) (ci := 1) (v := .long (lN u)) (C := R_M) (T := F_M) (N := 9) hx hb hts f_M hown hK hP 0 rfl rfl 3 (by decide) (hts _ (al_m aw_t210)) (fun _ h9 => h9) rfl d_M_key_95 ?_
      refine lv_aload_n hx hb d_M_key_98 rfl (lv_at hl 1 rfl) ?_
      refine va_get (D := (dC, dI)) (ci := 1) (v := .long (lN (sp_f a b))) (C := R_M) (T := F_M) (N := 9) hx hb hts f_M hown hK hP 0 rfl rfl 2 (by decide) (hts _ (al_m aw_t209)) (fun _ h9 => h9) rfl d_M_key_99 ?_
      refine W.lcmp hx hb d_M_key_102 ?_
      refine lv_if_ge (tgt := 131) hx hb d_M_key_103 (by decide) (fun hc103 => ?_) (fun hc103 => ?_)
      · skip
        rw [lg_cmp_ge] at hc103
        rw [pk_lLE (a := sp_f a b) (b := u) (by omega) (by omega)] at hc103
        omega
      · skip
        rw [lg_cmp_ge] at hc103
        rw [pk_lLE (a := sp_f a b) (b := u) (by omega) (by omega)] at hc103
        refine lv_lload_n hx hb d_M_key_106 rfl (lv_at hl 0 rfl) ?_
        refine lv_aload_n hx hb d_M_key_107 rfl (lv_at hl 1 rfl) ?_
        refine va_get (D := (dC, dI)) (ci := 1) (v := .long (lN (a * b))) (C := R_M) (T := F_M) (N := 9) hx hb hts f_M hown hK hP 0 rfl rfl 0 (by decide) (hts _ (al_m aw_t207)) (fun _ h9 => h9) rfl d_M_key_108 ?_
        refine lv_ladd hx hb d_M_key_111 ?_
        refine wk_l (y := lN ((a * b * u % sp_f a b) + (a * b))) (lN_add (a * b * u % sp_f a b) (a * b)) ?_
        refine lv_aload_n hx hb d_M_key_112 rfl (lv_at hl 1 rfl) ?_
        refine va_get (D := (dC, dI)) (ci := 1) (v := .long (lN (sp_f a b))) (C := R_M) (T := F_M) (N := 9) hx hb hts f_M hown hK hP 0 rfl rfl 2 (by decide) (hts _ (al_m aw_t209)) (fun _ h9 => h9) rfl d_M_key_113 ?_
        refine lv_lrem hx hb d_M_key_116 (lN_ne0 (by omega) (by omega)) ?_
        refine wk_l (y := lN (a * b * (u + 1) % sp_f a b)) ((pk_lRem (by omega) (by omega) (by omega)).trans (congrArg lN (un_step (a * b) u (sp_f a b)))) ?_
        refine lv_lstore_n (lv' := [(3, .long (lN (a * b * (u + 1) % sp_f a b))), (0, .ref h1), (1, .int (nI a)), (2, .int (nI b))]) hx hb d_M_key_117 rfl hl (by decide) rfl (fun ls hl => ?_)
        refine lv_aload_n hx hb d_M_key_118 rfl (lv_at hl 1 rfl) ?_
        refine lv_dup hx hb d_M_key_119 rfl ?_
        refine va_get (D := (dC, dI)) (ci := 1) (v := .long (lN u)) (C := R_M) (T := F_M) (N := 9) hx hb hts f_M hown hK hP 0 rfl rfl 3 (by decide) (hts _ (al_m aw_t210)) (fun _ h9 => h9) rfl d_M_key_120 ?_
        refine lv_lconst (v := lN 1) hx hb d_M_key_123 rfl ?_
        refine lv_ladd hx hb d_M_key_124 ?_
        refine wk_l (y := lN (u + 1)) (lN_add u 1) ?_
        refine va_put (D := (dC, dI)) (ci := 1) (v := .long (lN (u + 1))) (ty := .long) (C := R_M) (T := F_M) (N := 9) hx hb hts f_M t_M t_M_ok n_M hown hK hP hD hS 0 rfl rfl 3 (by decide) (hts _ (al_m aw_t210)) (fun _ h9 => h9) rfl (by decide +kernel) rfl rfl (Nat.le_of_ble_eq_true rfl) d_M_key_125 (fun H locs hP hD hS => ?_)
        have hP : va_P (dC, dI) classes [(h1, .inr (1, [.long (lN (a * b)), .long (lN (a * b * (a * b))), .long (lN (sp_f a b)), .long (lN (u + 1)), .int (nI bx), .int (nI cl), .int (nI cd), .int (nI rd), .ref q1])), (q1, .inl (cB, 30, .inr (.inl (fun j => lN (g j)))))] H := hP
        have hD : va_D A0 [(h1, .inr (1, [.long (lN (a * b)), .long (lN (a * b * (a * b))), .long (lN (sp_f a b)), .long (lN (u + 1)), .int (nI bx), .int (nI cl), .int (nI cd), .int (nI rd), .ref q1])), (q1, .inl (cB, 30, .inr (.inl (fun j => lN (g j)))))] := hD
        refine lv_goto (tgt := 88) hx hb d_M_key_128 (by decide) ?_
        exact ih _ (by omega) (u + 1) _ _ ls (lv_sub hl [0, 1, 2, 3] rfl) hP hD hS (by omega) (by omega) rfl
end

set_option maxHeartbeats 4000000 in
set_option maxRecDepth 100000 in
theorem c_M_key (l : Launch) (dC : Nat → ClassId) (dI : Nat → Nat → Nat) (h1 q1 : Nat) (cB : ClassId) (p q bx cl cd rd : Nat) (g : Nat → Nat) (x y : Int32) (hne : h1 ≠ q1) : Met l y_M_key w_M_key ({ frames := 1, cells := 0, slots := 0, locals := 22 }) (va_Pc [.ref h1, .int x, .int y] (fun U => va_P (dC, dI) classes [(h1, .inr (1, [.long (lN (p * q)), .long (lN (p * q * (p * q))), .long (lN (sp_f p q)), .long (lN (sp_cex p q)), .int (nI bx), .int (nI cl), .int (nI cd), .int (nI rd), .ref q1])), (q1, .inl (cB, 30, .inr (.inl (fun j => lN (g j)))))] U.heap ∧ va_K (dC, dI) classes [(cB, .long)] U)) (qmI (an_key x y) (dC, dI) classes [(h1, .inr (1, [.long (lN ((sel (sp_isK x y) x.toInt.toNat p) * (sel (sp_isK x y) y.toInt.toNat q))), .long (lN ((sel (sp_isK x y) x.toInt.toNat p) * (sel (sp_isK x y) y.toInt.toNat q) * ((sel (sp_isK x y) x.toInt.toNat p) * (sel (sp_isK x y) y.toInt.toNat q)))), .long (lN (sp_f (sel (sp_isK x y) x.toInt.toNat p) (sel (sp_isK x y) y.toInt.toNat q))), .long (lN (sp_cex (sel (sp_isK x y) x.toInt.toNat p) (sel (sp_isK x y) y.toInt.toNat q))), .int (nI (sel (sp_isK x y) 0 bx)), .int (nI cl), .int (nI cd), .int (nI rd), .ref q1])), (q1, .inl (cB, 30, .inr (.inl (fun j => lN (g j)))))] h1 q1) 0 0 (two h1 q1) := by
  refine Met.ofW (cc := b_M_key) (maxL := 5) (ret := some .int) (by decide) rfl ?_
  intro pg ev s mi args below meth co s₁ B hml hv
  obtain ⟨rfl, hP, hK⟩ := hv
  have hx := B.exec
  have hb := B.bytes
  have hr := B.returns
  have hts := atoms_spec (ws := w_M_key) B.pre
  have hown : s.vm.findClass R_M = some mi.cls := findClass_of_methodNamed B.named
  have hlocks := B.notSynchronized
  have hS : va_S (two h1 q1) s.heap s.heap [] := va_S.rf
  have hP : va_P (dC, dI) classes [(h1, .inr (1, [.long (lN (p * q)), .long (lN (p * q * (p * q))), .long (lN (sp_f p q)), .long (lN (sp_cex p q)), .int (nI bx), .int (nI cl), .int (nI cd), .int (nI rd), .ref q1])), (q1, .inl (cB, 30, .inr (.inl (fun j => lN (g j)))))] s.heap := hP
  obtain ⟨A, hAe⟩ : ∃ A : Nat → Prop, A = two h1 q1 := ⟨_, rfl⟩
  rw [← hAe] at hS
  have hD : va_D A [(h1, .inr (1, [.long (lN (p * q)), .long (lN (p * q * (p * q))), .long (lN (sp_f p q)), .long (lN (sp_cex p q)), .int (nI bx), .int (nI cl), .int (nI cd), .int (nI rd), .ref q1])), (q1, .inl (cB, 30, .inr (.inl (fun j => lN (g j)))))] := by rw [hAe]; exact mu_D hne
  have hl := lv_entry ([.ref h1, .int x, .int y]) (n := 5) (Nat.le_of_ble_eq_true rfl)
  rw [lg_entry_eq]
  generalize (lg_sl ([.ref h1, .int x, .int y]) ++ List.replicate (5 - (lg_sl ([.ref h1, .int x, .int y])).length) Slot.unset).toArray = ls at hl ⊢
  have hl : lv_has ls 5 [(0, .ref h1), (1, .int x), (2, .int y)] := hl
  refine lv_iload_n hx hb d_M_key_0 rfl (lv_at hl 1 rfl) ?_
  refine pu_i (va_runS (As := [.int x]) (rest := []) ⟨hx, hb, hml, hown, hts⟩ (c_M_prime l x) (va_cwS 1 hts (al_S (k_M_prime) (aw_t239) (aw_t240) (aw_t2)) rfl rfl rfl (by decide +kernel) ⟨Nat.le_of_ble_eq_true rfl, Nat.le_of_ble_eq_true rfl⟩) pu_preS rfl rfl hl.1 rfl (lv_room (Nat.le_of_ble_eq_true rfl)) d_M_key_1 ⟨Nat.zero_le _, Nat.zero_le _⟩) hS (fun H locs hkp hS => ?_)
  have hP := hkp _ _ _ hP
  refine lv_if_eq (tgt := 35) hx hb d_M_key_4 (by decide) (fun hc4 => ?_) (fun hc4 => ?_)
  · skip
    rw [bI_0] at hc4
    have hKf : sp_isK x y = false := by simp [sp_isK, hc4]
    refine lv_bipush (v := -4) hx hb d_M_key_35 (by decide) ?_
    rw [hAe] at hS
    exact mu_iret hx hb hr (by simp only [hKf, sel_f]; exact hP) hS d_M_key_37 hlocks (by simp [an_key, hKf])
  · skip
    rw [bI_0] at hc4
    rw [Bool.not_eq_false] at hc4
    refine lv_iload_n hx hb d_M_key_7 rfl (lv_at hl 2 rfl) ?_
    refine pu_i (va_runS (As := [.int y]) (rest := []) ⟨hx, hb, hml, hown, hts⟩ (c_M_prime l y) (va_cwS 1 hts (al_S (k_M_prime) (aw_t239) (aw_t240) (aw_t2)) rfl rfl rfl (by decide +kernel) ⟨Nat.le_of_ble_eq_true rfl, Nat.le_of_ble_eq_true rfl⟩) pu_preS rfl rfl hl.1 rfl (lv_room (Nat.le_of_ble_eq_true rfl)) d_M_key_8 ⟨Nat.zero_le _, Nat.zero_le _⟩) hS (fun H locs hkp hS => ?_)
    have hP := hkp _ _ _ hP
    refine lv_if_eq (tgt := 35) hx hb d_M_key_11 (by decide) (fun hc11 => ?_) (fun hc11 => ?_)
    · skip
      rw [bI_0] at hc11
      have hKf : sp_isK x y = false := by simp [sp_isK, hc11]
      refine lv_bipush (v := -4) hx hb d_M_key_35 (by decide) ?_
      rw [hAe] at hS
      exact mu_iret hx hb hr (by simp only [hKf, sel_f]; exact hP) hS d_M_key_37 hlocks (by simp [an_key, hKf])
    · skip
      rw [bI_0] at hc11
      rw [Bool.not_eq_false] at hc11
      obtain ⟨a, hpa, ha2, rfl⟩ := sp_isP_of hc4
      obtain ⟨b, hpb, hb2, rfl⟩ := sp_isP_of hc11
      have ha3 := hpa.1
      have ha9 := hpa.2.1
      have hb3 := hpb.1
      have hb9 := hpb.2.1
      refine lv_iload_n hx hb d_M_key_14 rfl (lv_at hl 1 rfl) ?_
      refine lv_iload_n hx hb d_M_key_15 rfl (lv_at hl 2 rfl) ?_
      refine lv_icmp_eq (tgt := 35) hx hb d_M_key_16 (by decide) (fun hc16 => ?_) (fun hc16 => ?_)
      · skip
        rw [nI_eq (a := a) (b := b) (by omega) (by omega)] at hc16
        have hKf : sp_isK (nI a) (nI b) = false := by simp only [sp_isK, hc4, hc11, ix_nat ha2, ix_nat hb2, nI_toInt ha2, nI_toInt hb2, Int.toNat_natCast, Bool.true_and, ne_eq, Bool.and_eq_false_iff, decide_eq_false_iff_not]; omega
        refine lv_bipush (v := -4) hx hb d_M_key_35 (by decide) ?_
        rw [hAe] at hS
        exact mu_iret hx hb hr (by simp only [hKf, sel_f]; exact hP) hS d_M_key_37 hlocks (by simp [an_key, hKf])
      · skip
        rw [nI_eq (a := a) (b := b) (by omega) (by omega)] at hc16
        refine lv_iload_n hx hb d_M_key_19 rfl (lv_at hl 2 rfl) ?_
        refine lv_iconst (v := nI 1) hx hb d_M_key_20 (by decide) ?_
        refine lv_isub hx hb d_M_key_21 ?_
        refine wk_i (y := nI (b - 1)) (pk_sub (by omega)) ?_
        refine lv_iload_n hx hb d_M_key_22 rfl (lv_at hl 1 rfl) ?_
        refine lv_irem hx hb d_M_key_23 (nI_ne0 (by omega) (by omega)) ?_
        refine wk_i (y := nI ((b - 1) % a)) (pk_rem (by omega) (by omega) (by omega)) ?_
        have hm23 := Nat.mod_le (b - 1) a
        refine lv_if_eq (tgt := 35) hx hb d_M_key_24 (by decide) (fun hc24 => ?_) (fun hc24 => ?_)
        · skip
          rw [← nI_0] at hc24
          rw [nI_eq (a := (b - 1) % a) (b := 0) (by omega) (by omega)] at hc24
          have hKf : sp_isK (nI a) (nI b) = false := by simp only [sp_isK, hc4, hc11, ix_nat ha2, ix_nat hb2, nI_toInt ha2, nI_toInt hb2, Int.toNat_natCast, Bool.true_and, ne_eq, Bool.and_eq_false_iff, decide_eq_false_iff_not]; omega
          refine lv_bipush (v := -4) hx hb d_M_key_35 (by decide) ?_
          rw [hAe] at hS
          exact mu_iret hx hb hr (by simp only [hKf, sel_f]; exact hP) hS d_M_key_37 hlocks (by simp [an_key, hKf])
        · skip
          rw [← nI_0] at hc24
          rw [nI_eq (a := (b - 1) % a) (b := 0) (by omega) (by omega)] at hc24
          refine lv_iload_n hx hb d_M_key_27 rfl (lv_at hl 1 rfl) ?_
          refine lv_iconst (v := nI 1) hx hb d_M_key_28 (by decide) ?_
          refine lv_isub hx hb d_M_key_29 ?_
          refine wk_i (y := nI (a - 1)) (pk_sub (by omega)) ?_
          refine lv_iload_n hx hb d_M_key_30 rfl (lv_at hl 2 rfl) ?_
          refine lv_irem hx hb d_M_key_31 (nI_ne0 (by omega) (by omega)) ?_
          refine wk_i (y := nI ((a - 1) % b)) (pk_rem (by omega) (by omega) (by omega)) ?_
          have hm31 := Nat.mod_le (a - 1) b
          refine lv_if_ne (tgt := 38) hx hb d_M_key_32 (by decide) (fun hc32 => ?_) (fun hc32 => ?_)
          · skip
            rw [← nI_0] at hc32
            rw [nI_eq (a := (a - 1) % b) (b := 0) (by omega) (by omega)] at hc32
            have hKt : sp_isK (nI a) (nI b) = true := by simp only [sp_isK, hc4, hc11, ix_nat ha2, ix_nat hb2, nI_toInt ha2, nI_toInt hb2, Int.toNat_natCast, Bool.true_and, ne_eq, Bool.and_eq_true, decide_eq_true_eq]; omega
            have hk : ma_K a b := ⟨hpa, hpb, hc16, hc24, hc32⟩
            have hbg := ma_big hk
            have hp3 := hk.1.1
            have hq3 := hk.2.1.1
            have hp9 := hk.1.2.1
            have hq9 := hk.2.1.2.1
            have hkf := ma_keyf hk
            refine lv_aload_n hx hb d_M_key_38 rfl (lv_at hl 0 rfl) ?_
            refine lv_iload_n hx hb d_M_key_39 rfl (lv_at hl 1 rfl) ?_
            refine lv_i2l (v := lN a) hx hb d_M_key_40 (nI_l (by omega)) ?_
            refine lv_iload_n hx hb d_M_key_41 rfl (lv_at hl 2 rfl) ?_
            refine lv_i2l (v := lN b) hx hb d_M_key_42 (nI_l (by omega)) ?_
            refine lv_lmul hx hb d_M_key_43 ?_
            refine wk_l (y := lN (a * b)) (lN_mul a b) ?_
            refine va_put (D := (dC, dI)) (ci := 1) (v := .long (lN (a * b))) (ty := .long) (C := R_M) (T := F_M) (N := 9) hx hb hts f_M t_M t_M_ok n_M hown hK hP hD hS 0 rfl rfl 0 (by decide) (hts _ (al_m aw_t207)) (fun _ h9 => h9) rfl (by decide +kernel) rfl rfl (Nat.le_of_ble_eq_true rfl) d_M_key_44 (fun H locs hP hD hS => ?_)
            have hP : va_P (dC, dI) classes [(h1, .inr (1, [.long (lN (a * b)), .long (lN (p * q * (p * q))), .long (lN (sp_f p q)), .long (lN (sp_cex p q)), .int (nI bx), .int (nI cl), .int (nI cd), .int (nI rd), .ref q1])), (q1, .inl (cB, 30, .inr (.inl (fun j => lN (g j)))))] H := hP
            have hD : va_D A [(h1, .inr (1, [.long (lN (a * b)), .long (lN (p * q * (p * q))), .long (lN (sp_f p q)), .long (lN (sp_cex p q)), .int (nI bx), .int (nI cl), .int (nI cd), .int (nI rd), .ref q1])), (q1, .inl (cB, 30, .inr (.inl (fun j => lN (g j)))))] := hD
            refine lv_aload_n hx hb d_M_key_47 rfl (lv_at hl 0 rfl) ?_
            refine lv_aload_n hx hb d_M_key_48 rfl (lv_at hl 0 rfl) ?_
            refine va_get (D := (dC, dI)) (ci := 1) (v := .long (lN (a * b))) (C := R_M) (T := F_M) (N := 9) hx hb hts f_M hown hK hP 0 rfl rfl 0 (by decide) (hts _ (al_m aw_t207)) (fun _ h9 => h9) rfl d_M_key_49 ?_
            refine lv_aload_n hx hb d_M_key_52 rfl (lv_at hl 0 rfl) ?_
            refine va_get (D := (dC, dI)) (ci := 1) (v := .long (lN (a * b))) (C := R_M) (T := F_M) (N := 9) hx hb hts f_M hown hK hP 0 rfl rfl 0 (by decide) (hts _ (al_m aw_t207)) (fun _ h9 => h9) rfl d_M_key_53 ?_
            refine lv_lmul hx hb d_M_key_56 ?_
            refine wk_l (y := lN ((a * b) * (a * b))) (lN_mul (a * b) (a * b)) ?_
            refine va_put (D := (dC, dI)) (ci := 1) (v := .long (lN ((a * b) * (a * b)))) (ty := .long) (C := R_M) (T := F_M) (N := 9) hx hb hts f_M t_M t_M_ok n_M hown hK hP hD hS 0 rfl rfl 1 (by decide) (hts _ (al_m aw_t208)) (fun _ h9 => h9) rfl (by decide +kernel) rfl rfl (Nat.le_of_ble_eq_true rfl) d_M_key_57 (fun H locs hP hD hS => ?_)
            have hP : va_P (dC, dI) classes [(h1, .inr (1, [.long (lN (a * b)), .long (lN ((a * b) * (a * b))), .long (lN (sp_f p q)), .long (lN (sp_cex p q)), .int (nI bx), .int (nI cl), .int (nI cd), .int (nI rd), .ref q1])), (q1, .inl (cB, 30, .inr (.inl (fun j => lN (g j)))))] H := hP
            have hD : va_D A [(h1, .inr (1, [.long (lN (a * b)), .long (lN ((a * b) * (a * b))), .long (lN (sp_f p q)), .long (lN (sp_cex p q)), .int (nI bx), .int (nI cl), .int (nI cd), .int (nI rd), .ref q1])), (q1, .inl (cB, 30, .inr (.inl (fun j => lN (g j)))))] := hD
            refine lv_aload_n hx hb d_M_key_60 rfl (lv_at hl 0 rfl) ?_
            refine lv_iload_n hx hb d_M_key_61 rfl (lv_at hl 1 rfl) ?_
            refine lv_i2l (v := lN a) hx hb d_M_key_62 (nI_l (by omega)) ?_
            refine lv_lconst (v := lN 1) hx hb d_M_key_63 rfl ?_
            refine lv_lsub hx hb d_M_key_64 ?_
            refine wk_l (y := lN (a - 1)) (lN_sub (by omega)) ?_
            refine lv_iload_n hx hb d_M_key_65 rfl (lv_at hl 2 rfl) ?_
            refine lv_i2l (v := lN b) hx hb d_M_key_66 (nI_l (by omega)) ?_
            refine lv_lconst (v := lN 1) hx hb d_M_key_67 rfl ?_
            refine lv_lsub hx hb d_M_key_68 ?_
            refine wk_l (y := lN (b - 1)) (lN_sub (by omega)) ?_
            refine lv_lmul hx hb d_M_key_69 ?_
            refine wk_l (y := lN (sp_f a b)) (lN_mul _ _) ?_
            refine va_put (D := (dC, dI)) (ci := 1) (v := .long (lN (sp_f a b))) (ty := .long) (C := R_M) (T := F_M) (N := 9) hx hb hts f_M t_M t_M_ok n_M hown hK hP hD hS 0 rfl rfl 2 (by decide) (hts _ (al_m aw_t209)) (fun _ h9 => h9) rfl (by decide +kernel) rfl rfl (Nat.le_of_ble_eq_true rfl) d_M_key_70 (fun H locs hP hD hS => ?_)
            have hP : va_P (dC, dI) classes [(h1, .inr (1, [.long (lN (a * b)), .long (lN ((a * b) * (a * b))), .long (lN (sp_f a b)), .long (lN (sp_cex p q)), .int (nI bx), .int (nI cl), .int (nI cd), .int (nI rd), .ref q1])), (q1, .inl (cB, 30, .inr (.inl (fun j => lN (g j)))))] H := hP
            have hD : va_D A [(h1, .inr (1, [.long (lN (a * b)), .long (lN ((a * b) * (a * b))), .long (lN (sp_f a b)), .long (lN (sp_cex p q)), .int (nI bx), .int (nI cl), .int (nI cd), .int (nI rd), .ref q1])), (q1, .inl (cB, 30, .inr (.inl (fun j => lN (g j)))))] := hD
            refine lv_aload_n hx hb d_M_key_73 rfl (lv_at hl 0 rfl) ?_
            refine lv_lconst (v := lN 1) hx hb d_M_key_74 rfl ?_
            refine va_put (D := (dC, dI)) (ci := 1) (v := .long (lN 1)) (ty := .long) (C := R_M) (T := F_M) (N := 9) hx hb hts f_M t_M t_M_ok n_M hown hK hP hD hS 0 rfl rfl 3 (by decide) (hts _ (al_m aw_t210)) (fun _ h9 => h9) rfl (by decide +kernel) rfl rfl (Nat.le_of_ble_eq_true rfl) d_M_key_75 (fun H locs hP hD hS => ?_)
            have hP : va_P (dC, dI) classes [(h1, .inr (1, [.long (lN (a * b)), .long (lN ((a * b) * (a * b))), .long (lN (sp_f a b)), .long (lN 1), .int (nI bx), .int (nI cl), .int (nI cd), .int (nI rd), .ref q1])), (q1, .inl (cB, 30, .inr (.inl (fun j => lN (g j)))))] H := hP
            have hD : va_D A [(h1, .inr (1, [.long (lN (a * b)), .long (lN ((a * b) * (a * b))), .long (lN (sp_f a b)), .long (lN 1), .int (nI bx), .int (nI cl), .int (nI cd), .int (nI rd), .ref q1])), (q1, .inl (cB, 30, .inr (.inl (fun j => lN (g j)))))] := hD
            refine lv_aload_n hx hb d_M_key_78 rfl (lv_at hl 0 rfl) ?_
            refine va_get (D := (dC, dI)) (ci := 1) (v := .long (lN (a * b))) (C := R_M) (T := F_M) (N := 9) hx hb hts f_M hown hK hP 0 rfl rfl 0 (by decide) (hts _ (al_m aw_t207)) (fun _ h9 => h9) rfl d_M_key_79 ?_
            refine lv_aload_n hx hb d_M_key_82 rfl (lv_at hl 0 rfl) ?_
            refine va_get (D := (dC, dI)) (ci := 1) (v := .long (lN (sp_f a b))) (C := R_M) (T := F_M) (N := 9) hx hb hts f_M hown hK hP 0 rfl rfl 2 (by decide) (hts _ (al_m aw_t209)) (fun _ h9 => h9) rfl d_M_key_83 ?_
            refine lv_lrem hx hb d_M_key_86 (lN_ne0 (by omega) (by omega)) ?_
            refine wk_l (y := lN ((a * b) % (sp_f a b))) (pk_lRem (by omega) (by omega) (by omega)) ?_
            have hm86 := Nat.mod_le (a * b) (sp_f a b)
            refine lv_lstore_n (lv' := [(3, .long (lN ((a * b) % (sp_f a b)))), (0, .ref h1), (1, .int (nI a)), (2, .int (nI b))]) hx hb d_M_key_87 rfl hl (by decide) rfl (fun ls hl => ?_)
            refine lp_M_key_88 hx hb hts hown hK hk ⟨hbg.1, hbg.2.1, hbg.2.2.1, hbg.2.2.2.1⟩ (by omega) (fun u H locs ls hl hP hD hS hq => ?_) _ 1 _ _ ls (by rw [Nat.mul_one]; exact (lv_sub hl [0, 1, 2, 3] rfl)) hP hD hS (by omega) (by omega) rfl
            subst hq
            refine lv_aload_n hx hb d_M_key_131 rfl (lv_at hl 1 rfl) ?_
            refine lv_iconst (v := nI 0) hx hb d_M_key_132 (by decide) ?_
            refine va_put (D := (dC, dI)) (ci := 1) (v := .int (nI 0)) (ty := .boolean) (C := R_M) (T := F_M) (N := 9) hx hb hts f_M t_M t_M_ok n_M hown hK hP hD hS 0 rfl rfl 4 (by decide) (hts _ (al_m aw_t211)) (fun _ h9 => h9) rfl (by decide +kernel) rfl rfl (Nat.le_of_ble_eq_true rfl) d_M_key_133 (fun H locs hP hD hS => ?_)
            have hP : va_P (dC, dI) classes [(h1, .inr (1, [.long (lN (a * b)), .long (lN (a * b * (a * b))), .long (lN (sp_f a b)), .long (lN (sp_cex a b)), .int (nI 0), .int (nI cl), .int (nI cd), .int (nI rd), .ref q1])), (q1, .inl (cB, 30, .inr (.inl (fun j => lN (g j)))))] H := hP
            have hD : va_D A [(h1, .inr (1, [.long (lN (a * b)), .long (lN (a * b * (a * b))), .long (lN (sp_f a b)), .long (lN (sp_cex a b)), .int (nI 0), .int (nI cl), .int (nI cd), .int (nI rd), .ref q1])), (q1, .inl (cB, 30, .inr (.inl (fun j => lN (g j)))))] := hD
            refine lv_aload_n hx hb d_M_key_136 rfl (lv_at hl 1 rfl) ?_
            refine va_get (D := (dC, dI)) (ci := 1) (v := .long (lN (a * b))) (C := R_M) (T := F_M) (N := 9) hx hb hts f_M hown hK hP 0 rfl rfl 0 (by decide) (hts _ (al_m aw_t207)) (fun _ h9 => h9) rfl d_M_key_137 ?_
            refine lv_l2i (v := nI (a * b)) hx hb d_M_key_140 (lN_i (a * b)) ?_
            rw [hAe] at hS
            exact mu_iret hx hb hr (by simp only [hKt, sel_t, ix_nat ha2, ix_nat hb2]; exact hP) hS d_M_key_141 hlocks (by simp [an_key, hKt, ix_nat ha2, ix_nat hb2])
          · skip
            rw [← nI_0] at hc32
            rw [nI_eq (a := (a - 1) % b) (b := 0) (by omega) (by omega)] at hc32
            have hKf : sp_isK (nI a) (nI b) = false := by simp only [sp_isK, hc4, hc11, ix_nat ha2, ix_nat hb2, nI_toInt ha2, nI_toInt hb2, Int.toNat_natCast, Bool.true_and, ne_eq, Bool.and_eq_false_iff, decide_eq_false_iff_not]; omega
            refine lv_bipush (v := -4) hx hb d_M_key_35 (by decide) ?_
            rw [hAe] at hS
            exact mu_iret hx hb hr (by simp only [hKf, sel_f]; exact hP) hS d_M_key_37 hlocks (by simp [an_key, hKf])
