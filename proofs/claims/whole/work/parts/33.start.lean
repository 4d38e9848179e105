set_option maxHeartbeats 4000000 in
set_option maxRecDepth 100000 in
theorem whole_start {p : Program} {e : Env} {s : State} {m : MethodId} {below : List Frame} {meth : Method} {c : Code} (l : Launch) {b L : Nat} {xs : Nat → Int32} (hL : L ≤ 2560) (C0 : lw_At p s m meth c b L xs) : W p l e room_1 s m #[Value.ref b] below meth c s.heap [] 0 0 (lw_Z below #[Value.ref b] s) (entryFrame m ([Value.ref b] : List Value).toArray 4) := by
  obtain ⟨hx, hb, hr, hml, hown0, hts0, hX, hbl, hlocks, -⟩ := C0
  have hown : s.vm.findClass R_L = some m.cls := hown0
  have hts : ∀ w ∈ Cond.initialized R_X :: al_w, w.before #[Value.ref b] s = true := by
    intro w hw
    rcases List.mem_cons.mp hw with rfl | hw
    · exact hts0 _ (List.mem_filter.mp aw_t1).1
    · exact hts0 _ (List.mem_filter.mp hw).1
  obtain ⟨cX, iX, hnX⟩ := u_known hts f_X (hts _ (al_m aw_t6))
  obtain ⟨cM, iM, hnM⟩ := u_known hts f_M (hts _ (al_m aw_t202))
  obtain ⟨dC, dI, hK⟩ : ∃ (dC : Nat → ClassId) (dI : Nat → Nat → Nat), va_K (dC, dI) classes [] s := ⟨fun k => if k = 0 then cX else cM, fun k => if k = 0 then iX else iM, lw_K hnX hnM⟩
  obtain ⟨A, hAe⟩ : ∃ A : Nat → Prop, A = fun q => s.heap.size ≤ q := ⟨_, rfl⟩
  have hA : ∀ q : Nat, s.heap.size ≤ q → A q := fun q h => by rw [hAe]; exact h
  have hS : va_S A s.heap s.heap [] := va_S.rf
  have hP : va_P (dC, dI) classes [] s.heap := fun k q hq => by cases hq
  have hD : va_D A [] := ⟨fun i j p q hp => (by cases hp), fun k q hq => (by cases hq)⟩
  have hl := lv_entry ([.ref b]) (n := 4) (Nat.le_of_ble_eq_true rfl)
  rw [lg_entry_eq]
  generalize (lg_sl ([.ref b]) ++ List.replicate (4 - (lg_sl ([.ref b])).length) Slot.unset).toArray = ls at hl ⊢
  have hl : lv_has ls 4 [(0, .ref b)] := hl
  refine va_new (ci := 0) (fs := [.int (nI 0), .int (nI 0), .int (nI 0), .long (lN 0), .long (lN 0), .long (lN 0), .long (lN 0), .int (nI 0), .int (nI 0), .int (nI 0), .long (lN 0), .int (nI 0), .null]) (C := R_X) (T := F_X) (N := 13) hx hb hts f_X t_X t_X_ok hown (hts _ (al_m aw_t5)) (hts _ (al_m aw_t6)) (hts _ (al_m aw_t1)) hK hP hD hS hA rfl df_X (Nat.le_of_ble_eq_true rfl) (Nat.le_of_ble_eq_true rfl) d_L_law_0 (fun h0 H hP hD hS => ?_)
  have hP : va_P (dC, dI) classes [(h0, .inr (0, [.int (nI 0), .int (nI 0), .int (nI 0), .long (lN 0), .long (lN 0), .long (lN 0), .long (lN 0), .int (nI 0), .int (nI 0), .int (nI 0), .long (lN 0), .int (nI 0), .null]))] H := hP
  have hD : va_D A [(h0, .inr (0, [.int (nI 0), .int (nI 0), .int (nI 0), .long (lN 0), .long (lN 0), .long (lN 0), .long (lN 0), .int (nI 0), .int (nI 0), .int (nI 0), .long (lN 0), .int (nI 0), .null]))] := hD
  refine lv_dup hx hb d_L_law_3 rfl ?_
  have hPc := hP.sub (ws' := [(h0, .inr (0, [.int (nI 0), .int (nI 0), .int (nI 0), .long (lN 0), .long (lN 0), .long (lN 0), .long (lN 0), .int (nI 0), .int (nI 0), .int (nI 0), .long (lN 0), .int (nI 0), .null]))]) [0] rfl
  have hDc := hD.sub (ws' := [(h0, .inr (0, [.int (nI 0), .int (nI 0), .int (nI 0), .long (lN 0), .long (lN 0), .long (lN 0), .long (lN 0), .int (nI 0), .int (nI 0), .int (nI 0), .long (lN 0), .int (nI 0), .null]))]) [0] (by decide) rfl
  have hKc := hK.sub (tys' := []) [] rfl
  have hFc := va_free (wc := [(h0, .inr (0, [.int (nI 0), .int (nI 0), .int (nI 0), .long (lN 0), .long (lN 0), .long (lN 0), .long (lN 0), .int (nI 0), .int (nI 0), .int (nI 0), .long (lN 0), .int (nI 0), .null]))]) hD hS hA [0] rfl
  refine va_callv (va_runI (As := []) (rest := [.ref h0]) ⟨hx, hb, hml, hown, hts⟩ (c_X_init l dC dI h0 H.size) (cwI 0 hts (al_good k_X_init) rfl rfl rfl (hts _ (al_m aw_t1)) (hts _ (al_m aw_t7)) (hts _ (al_m aw_t8)) rfl (by decide +kernel) ⟨Nat.le_of_ble_eq_true rfl, Nat.le_of_ble_eq_true rfl⟩) ⟨fun a U g mk q => by obtain ⟨z0, z1, zP, zK, zD⟩ := q; exact ⟨z0, z1, zP, va_K.moved (u := U) (U := U.calling g mk a) (Vm.Alike.refl U.vm) zK, zD⟩, fun U hU hW => ⟨rfl, by rw [hU], by rw [hU]; exact hPc, va_K.moved hW.alike hKc, hDc.weaken (fun _ _ _ _ => trivial)⟩⟩ rfl rfl hl.1 rfl (lv_room (Nat.le_of_ble_eq_true rfl)) d_L_law_4 ⟨Nat.le_of_ble_eq_true rfl, Nat.le_of_ble_eq_true rfl⟩) hS (fun q _ h => hFc q h) hFc (fun u t H1 locs ht hvm hw hB hz1 hk1 hS => ?_)
  obtain ⟨q0, cA⟩ := u
  obtain ⟨hP1, hK1, hD1⟩ := hB
  rw [ht] at hP1
  have hKX := va_K.moved hvm.symm hK1
  obtain ⟨hP, hD⟩ := va_join (wr := []) (w1 := [(h0, .inr (0, [.int (nI 0), .int (nI 0), .int (nI 0), .long (lN 0), .long (lN 0), .long (lN 0), .long (lN 0), .int (nI 0), .int (nI 0), .int (nI 0), .long (lN 0), .int (nI 0), .ref q0])), (q0, .inl (cA, 30, .inr (.inl (fun j => lN (zg j)))))]) hP hD [0] [] rfl rfl (by decide) (by decide) hk1 hFc hP1 hD1
  have hP : va_P (dC, dI) classes [(h0, .inr (0, [.int (nI 0), .int (nI 0), .int (nI 0), .long (lN 0), .long (lN 0), .long (lN 0), .long (lN 0), .int (nI 0), .int (nI 0), .int (nI 0), .long (lN 0), .int (nI 0), .ref q0])), (q0, .inl (cA, 30, .inr (.inl (fun j => lN (zg j)))))] H1 := hP
  have hD : va_D A [(h0, .inr (0, [.int (nI 0), .int (nI 0), .int (nI 0), .long (lN 0), .long (lN 0), .long (lN 0), .long (lN 0), .int (nI 0), .int (nI 0), .int (nI 0), .long (lN 0), .int (nI 0), .ref q0])), (q0, .inl (cA, 30, .inr (.inl (fun j => lN (zg j)))))] := hD
  refine lv_astore_n (lv' := [(1, .ref h0), (0, .ref b)]) hx hb d_L_law_7 rfl hl (by decide) rfl (fun ls hl => ?_)
  refine va_new (ci := 1) (fs := [.long (lN 0), .long (lN 0), .long (lN 0), .long (lN 0), .int (nI 0), .int (nI 0), .int (nI 0), .int (nI 0), .null]) (C := R_M) (T := F_M) (N := 9) hx hb hts f_M t_M t_M_ok hown (hts _ (al_m aw_t201)) (hts _ (al_m aw_t202)) (hts _ (al_m aw_t2)) hK hP hD hS hA rfl df_M (Nat.le_of_ble_eq_true rfl) (Nat.le_of_ble_eq_true rfl) d_L_law_8 (fun h1 H hP hD hS => ?_)
  have hP : va_P (dC, dI) classes [(h0, .inr (0, [.int (nI 0), .int (nI 0), .int (nI 0), .long (lN 0), .long (lN 0), .long (lN 0), .long (lN 0), .int (nI 0), .int (nI 0), .int (nI 0), .long (lN 0), .int (nI 0), .ref q0])), (q0, .inl (cA, 30, .inr (.inl (fun j => lN (zg j))))), (h1, .inr (1, [.long (lN 0), .long (lN 0), .long (lN 0), .long (lN 0), .int (nI 0), .int (nI 0), .int (nI 0), .int (nI 0), .null]))] H := hP
  have hD : va_D A [(h0, .inr (0, [.int (nI 0), .int (nI 0), .int (nI 0), .long (lN 0), .long (lN 0), .long (lN 0), .long (lN 0), .int (nI 0), .int (nI 0), .int (nI 0), .long (lN 0), .int (nI 0), .ref q0])), (q0, .inl (cA, 30, .inr (.inl (fun j => lN (zg j))))), (h1, .inr (1, [.long (lN 0), .long (lN 0), .long (lN 0), .long (lN 0), .int (nI 0), .int (nI 0), .int (nI 0), .int (nI 0), .null]))] := hD
  refine lv_dup hx hb d_L_law_11 rfl ?_
  have hPc := hP.sub (ws' := [(h1, .inr (1, [.long (lN 0), .long (lN 0), .long (lN 0), .long (lN 0), .int (nI 0), .int (nI 0), .int (nI 0), .int (nI 0), .null]))]) [2] rfl
  have hDc := hD.sub (ws' := [(h1, .inr (1, [.long (lN 0), .long (lN 0), .long (lN 0), .long (lN 0), .int (nI 0), .int (nI 0), .int (nI 0), .int (nI 0), .null]))]) [2] (by decide) rfl
  have hKc := hK.sub (tys' := []) [] rfl
  have hFc := va_free (wc := [(h1, .inr (1, [.long (lN 0), .long (lN 0), .long (lN 0), .long (lN 0), .int (nI 0), .int (nI 0), .int (nI 0), .int (nI 0), .null]))]) hD hS hA [2] rfl
  refine va_callv (va_runI (As := []) (rest := [.ref h1]) ⟨hx, hb, hml, hown, hts⟩ (c_M_init l dC dI h1 H.size) (cwI 0 hts (al_good k_M_init) rfl rfl rfl (hts _ (al_m aw_t2)) (hts _ (al_m aw_t203)) (hts _ (al_m aw_t204)) rfl (by decide +kernel) ⟨Nat.le_of_ble_eq_true rfl, Nat.le_of_ble_eq_true rfl⟩) ⟨fun a U g mk q => by obtain ⟨z0, z1, zP, zK, zD⟩ := q; exact ⟨z0, z1, zP, va_K.moved (u := U) (U := U.calling g mk a) (Vm.Alike.refl U.vm) zK, zD⟩, fun U hU hW => ⟨rfl, by rw [hU], by rw [hU]; exact hPc, va_K.moved hW.alike hKc, hDc.weaken (fun _ _ _ _ => trivial)⟩⟩ rfl rfl hl.1 rfl (lv_room (Nat.le_of_ble_eq_true rfl)) d_L_law_12 ⟨Nat.le_of_ble_eq_true rfl, Nat.le_of_ble_eq_true rfl⟩) hS (fun q _ h => hFc q h) hFc (fun u t H1 locs ht hvm hw hB hz1 hk1 hS => ?_)
  obtain ⟨q1, cB⟩ := u
  obtain ⟨hP1, hK1, hD1⟩ := hB
  rw [ht] at hP1
  have hKM := va_K.moved hvm.symm hK1
  obtain ⟨hP, hD⟩ := va_join (wr := [(h0, .inr (0, [.int (nI 0), .int (nI 0), .int (nI 0), .long (lN 0), .long (lN 0), .long (lN 0), .long (lN 0), .int (nI 0), .int (nI 0), .int (nI 0), .long (lN 0), .int (nI 0), .ref q0])), (q0, .inl (cA, 30, .inr (.inl (fun j => lN (zg j)))))]) (w1 := [(h1, .inr (1, [.long (lN 0), .long (lN 0), .long (lN 0), .long (lN 0), .int (nI 0), .int (nI 0), .int (nI 0), .int (nI 0), .ref q1])), (q1, .inl (cB, 30, .inr (.inl (fun j => lN (zg j)))))]) hP hD [2] [0, 1] rfl rfl (by decide) (by decide) hk1 hFc hP1 hD1
  have hP : va_P (dC, dI) classes [(h0, .inr (0, [.int (nI 0), .int (nI 0), .int (nI 0), .long (lN 0), .long (lN 0), .long (lN 0), .long (lN 0), .int (nI 0), .int (nI 0), .int (nI 0), .long (lN 0), .int (nI 0), .ref q0])), (q0, .inl (cA, 30, .inr (.inl (fun j => lN (zg j))))), (h1, .inr (1, [.long (lN 0), .long (lN 0), .long (lN 0), .long (lN 0), .int (nI 0), .int (nI 0), .int (nI 0), .int (nI 0), .ref q1])), (q1, .inl (cB, 30, .inr (.inl (fun j => lN (zg j)))))] H1 := hP
  have hD : va_D A [(h0, .inr (0, [.int (nI 0), .int (nI 0), .int (nI 0), .long (lN 0), .long (lN 0), .long (lN 0), .long (lN 0), .int (nI 0), .int (nI 0), .int (nI 0), .long (lN 0), .int (nI 0), .ref q0])), (q0, .inl (cA, 30, .inr (.inl (fun j => lN (zg j))))), (h1, .inr (1, [.long (lN 0), .long (lN 0), .long (lN 0), .long (lN 0), .int (nI 0), .int (nI 0), .int (nI 0), .int (nI 0), .ref q1])), (q1, .inl (cB, 30, .inr (.inl (fun j => lN (zg j)))))] := hD
  refine lv_astore_n (lv' := [(2, .ref h1), (1, .ref h0), (0, .ref b)]) hx hb d_L_law_15 rfl hl (by decide) rfl (fun ls hl => ?_)
  refine lv_iconst (v := nI 0) hx hb d_L_law_16 (by decide) ?_
  refine lv_istore_n (lv' := [(3, .int (nI 0)), (2, .ref h1), (1, .ref h0), (0, .ref b)]) hx hb d_L_law_17 rfl hl (by decide) rfl (fun ls hl => ?_)
  refine W.widen (k := 4) (n := 82) (Nat.le_of_ble_eq_true rfl) (Nat.le_of_ble_eq_true rfl) ?_
  have hap : lw_ap s.heap.size h0 q0 h1 q1 := by
    rw [hAe] at hD
    exact ⟨hD.2 0 _ rfl, hD.2 1 _ rfl, hD.2 2 _ rfl, hD.2 3 _ rfl, fun h => absurd (hD.1 0 1 _ _ rfl rfl h) (by decide), fun h => absurd (hD.1 0 2 _ _ rfl rfl h) (by decide), fun h => absurd (hD.1 0 3 _ _ rfl rfl h) (by decide), fun h => absurd (hD.1 1 2 _ _ rfl rfl h) (by decide), fun h => absurd (hD.1 1 3 _ _ rfl rfl h) (by decide), fun h => absurd (hD.1 2 3 _ _ rfl rfl h) (by decide)⟩
  rw [hAe] at hS
  have hPX := hP.sub (ws' := [(h0, .inr (0, [.int (nI 0), .int (nI 0), .int (nI 0), .long (lN 0), .long (lN 0), .long (lN 0), .long (lN 0), .int (nI 0), .int (nI 0), .int (nI 0), .long (lN 0), .int (nI 0), .ref q0])), (q0, .inl (cA, 30, .inr (.inl (fun j => lN (zg j)))))]) [0, 1] rfl
  have hPM := hP.sub (ws' := [(h1, .inr (1, [.long (lN 0), .long (lN 0), .long (lN 0), .long (lN 0), .int (nI 0), .int (nI 0), .int (nI 0), .int (nI 0), .ref q1])), (q1, .inl (cB, 30, .inr (.inl (fun j => lN (zg j)))))]) [2, 3] rfl
  rw [← lw_x0] at hPX
  rw [← lw_m0] at hPM
  refine lw_lp hx hb hml hown hts hX hbl hKX hKM hap hL (fun H locs ls hS => ?_) _ 0 0 0 0 0 0 0 0 0 zg H1 _ ls hl hPX hPM hS li_0 (Nat.zero_le _) rfl
  refine lv_iconst (v := 1) hx hb d_L_law_911 (by decide) ?_
  refine va_forget (fun q hq => hS.2.2 q hq) ?_
  exact lw_ret hx hb hr hlocks d_L_law_912
