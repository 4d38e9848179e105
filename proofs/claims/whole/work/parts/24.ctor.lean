def zg : Nat → Nat := fun _ => 0

abbrev at_X_init (dC : Nat → ClassId) (dI : Nat → Nat → Nat) (A : Nat → Prop) (h0 : Nat) (u : Nat × ClassId) (t : State) : Prop := match u with
  | (q, cA) => va_P (dC, dI) classes [(h0, .inr (0, [.int (nI 0), .int (nI 0), .int (nI 0), .long (lN 0), .long (lN 0), .long (lN 0), .long (lN 0), .int (nI 0), .int (nI 0), .int (nI 0), .long (lN 0), .int (nI 0), .ref q])), (q, .inl (cA, 30, .inr (.inl (fun j => lN (zg j)))))] t.heap ∧ va_K (dC, dI) classes [(cA, .long)] t ∧ va_D A [(h0, .inr (0, [.int (nI 0), .int (nI 0), .int (nI 0), .long (lN 0), .long (lN 0), .long (lN 0), .long (lN 0), .int (nI 0), .int (nI 0), .int (nI 0), .long (lN 0), .int (nI 0), .ref q])), (q, .inl (cA, 30, .inr (.inl (fun j => lN (zg j)))))]
theorem df_X : ∀ j, j < 13 → defaultValue (t_X j) = vp_V [.int (nI 0), .int (nI 0), .int (nI 0), .long (lN 0), .long (lN 0), .long (lN 0), .long (lN 0), .int (nI 0), .int (nI 0), .int (nI 0), .long (lN 0), .int (nI 0), .null] j := by
  intro j hj
  match j, hj with
  | 0, _ => rfl
  | 1, _ => rfl
  | 2, _ => rfl
  | 3, _ => rfl
  | 4, _ => rfl
  | 5, _ => rfl
  | 6, _ => rfl
  | 7, _ => rfl
  | 8, _ => rfl
  | 9, _ => rfl
  | 10, _ => rfl
  | 11, _ => rfl
  | 12, _ => rfl
  | n + 13, h => exact absurd h (by omega)
set_option maxHeartbeats 4000000 in
set_option maxRecDepth 100000 in
theorem c_X_init (l : Launch) (dC : Nat → ClassId) (dI : Nat → Nat → Nat) (h0 sz : Nat) : Met l y_X_init w_X_init ({ frames := 1, cells := 1, slots := 30, locals := 16 }) (va_Pc [.ref h0] (fun U => U.heap.size = sz ∧ va_P (dC, dI) classes [(h0, .inr (0, [.int (nI 0), .int (nI 0), .int (nI 0), .long (lN 0), .long (lN 0), .long (lN 0), .long (lN 0), .int (nI 0), .int (nI 0), .int (nI 0), .long (lN 0), .int (nI 0), .null]))] U.heap ∧ va_K (dC, dI) classes [] U ∧ va_D (fun _ => True) [(h0, .inr (0, [.int (nI 0), .int (nI 0), .int (nI 0), .long (lN 0), .long (lN 0), .long (lN 0), .long (lN 0), .int (nI 0), .int (nI 0), .int (nI 0), .long (lN 0), .int (nI 0), .null]))])) (va_Qv (fun (_ : Nat × ClassId) => True) (at_X_init dC dI (va_A [(h0, .inr (0, [.int (nI 0), .int (nI 0), .int (nI 0), .long (lN 0), .long (lN 0), .long (lN 0), .long (lN 0), .int (nI 0), .int (nI 0), .int (nI 0), .long (lN 0), .int (nI 0), .null]))] sz) h0) (va_A [(h0, .inr (0, [.int (nI 0), .int (nI 0), .int (nI 0), .long (lN 0), .long (lN 0), .long (lN 0), .long (lN 0), .int (nI 0), .int (nI 0), .int (nI 0), .long (lN 0), .int (nI 0), .null]))] sz)) 1 30 (va_A [(h0, .inr (0, [.int (nI 0), .int (nI 0), .int (nI 0), .long (lN 0), .long (lN 0), .long (lN 0), .long (lN 0), .int (nI 0), .int (nI 0), .int (nI 0), .long (lN 0), .int (nI 0), .null]))] sz) := by
  refine Met.ofW (cc := b_X_init) (maxL := 1) (ret := none) (by decide) rfl ?_
  intro pg ev s mi args below meth co s₁ B hml hv
  obtain ⟨rfl, hsz, hP, hK, hD0⟩ := hv
  have hx := B.exec
  have hb := B.bytes
  have hr := B.returns
  have hts := atoms_spec (ws := w_X_init) B.pre
  have hown : s.vm.findClass R_X = some mi.cls := findClass_of_methodNamed B.named
  have hlocks := B.notSynchronized
  have hin : meth.name = "<init>" := (name_of_methodNamed B.named B.method).1
  subst hsz
  have hD := hD0.self (sz := s.heap.size)
  generalize hAe : va_A [(h0, .inr (0, [.int (nI 0), .int (nI 0), .int (nI 0), .long (lN 0), .long (lN 0), .long (lN 0), .long (lN 0), .int (nI 0), .int (nI 0), .int (nI 0), .long (lN 0), .int (nI 0), .null]))] s.heap.size = A at hD ⊢
  have hA : ∀ q : Nat, s.heap.size ≤ q → A q := fun q h => by rw [← hAe]; exact Or.inr h
  have hS : va_S A s.heap s.heap [] := va_S.rf
  have hP : va_P (dC, dI) classes [(h0, .inr (0, [.int (nI 0), .int (nI 0), .int (nI 0), .long (lN 0), .long (lN 0), .long (lN 0), .long (lN 0), .int (nI 0), .int (nI 0), .int (nI 0), .long (lN 0), .int (nI 0), .null]))] s.heap := hP
  have hl := lv_entry ([.ref h0]) (n := 1) (Nat.le_of_ble_eq_true rfl)
  rw [lg_entry_eq]
  generalize (lg_sl ([.ref h0]) ++ List.replicate (1 - (lg_sl ([.ref h0])).length) Slot.unset).toArray = ls at hl ⊢
  have hl : lv_has ls 1 [(0, .ref h0)] := hl
  refine lv_aload_n hx hb d_X_init_0 rfl (lv_at hl 0 rfl) ?_
  refine W.objInit hx hb hown (hts _ (al_m aw_t10)) (hts _ (al_m aw_t11)) (hts _ (al_m k_Object_init)) rfl (by rw [hml]; exact hl.1) rfl d_X_init_1 (Nat.le_of_ble_eq_true rfl) (Nat.le_of_ble_eq_true rfl) ?_
  refine W.eq (g2 := F0 mi 4 ls []) rfl ?_
  refine lv_aload_n hx hb d_X_init_4 rfl (lv_at hl 0 rfl) ?_
  refine lv_bipush (v := nI 30) hx hb d_X_init_5 (by decide) ?_
  refine va_newa (a0 := (30, .inr (.inl (fun j => lN (zg j))))) (ty := .long) (N' := 30) hx hb (hts _ (al_m aw_t53)) rfl hK hP hD hS hA (fun cA => rfl) (by decide) (by decide) (by decide) (Nat.le_of_ble_eq_true rfl) (Nat.le_of_ble_eq_true rfl) d_X_init_7 (fun q cA H hK hP hD hS => ?_)
  have hP : va_P (dC, dI) classes [(h0, .inr (0, [.int (nI 0), .int (nI 0), .int (nI 0), .long (lN 0), .long (lN 0), .long (lN 0), .long (lN 0), .int (nI 0), .int (nI 0), .int (nI 0), .long (lN 0), .int (nI 0), .null])), (q, .inl (cA, 30, .inr (.inl (fun j => lN (zg j)))))] H := hP
  have hD : va_D A [(h0, .inr (0, [.int (nI 0), .int (nI 0), .int (nI 0), .long (lN 0), .long (lN 0), .long (lN 0), .long (lN 0), .int (nI 0), .int (nI 0), .int (nI 0), .long (lN 0), .int (nI 0), .null])), (q, .inl (cA, 30, .inr (.inl (fun j => lN (zg j)))))] := hD
  have hK : va_K (dC, dI) classes [(cA, .long)] s := hK
  refine va_putF (D := (dC, dI)) (ci := 0) (v := .ref q) (ty := .array .long) (C := R_X) (T := F_X) (N := 13) hx hb hts f_X t_X t_X_ok n_X hown hK hP hD hS 0 rfl rfl 12 (by decide) (hts _ (al_m aw_t25)) (fun _ h9 => h9) rfl hin rfl (by decide +kernel) rfl rfl (Nat.le_of_ble_eq_true rfl) d_X_init_9 (fun H locs hP hD hS => ?_)
  have hP : va_P (dC, dI) classes [(h0, .inr (0, [.int (nI 0), .int (nI 0), .int (nI 0), .long (lN 0), .long (lN 0), .long (lN 0), .long (lN 0), .int (nI 0), .int (nI 0), .int (nI 0), .long (lN 0), .int (nI 0), .ref q])), (q, .inl (cA, 30, .inr (.inl (fun j => lN (zg j)))))] H := hP
  have hD : va_D A [(h0, .inr (0, [.int (nI 0), .int (nI 0), .int (nI 0), .long (lN 0), .long (lN 0), .long (lN 0), .long (lN 0), .int (nI 0), .int (nI 0), .int (nI 0), .long (lN 0), .int (nI 0), .ref q])), (q, .inl (cA, 30, .inr (.inl (fun j => lN (zg j)))))] := hD
  exact W.vret hx hb hr (fun t ht hW => ⟨⟨(q, cA), rfl, trivial, by rw [ht]; exact hP, va_K.moved hW.alike hK, hD⟩, hS.F ht⟩) hS.2.2 d_X_init_12 hlocks

abbrev at_M_init (dC : Nat → ClassId) (dI : Nat → Nat → Nat) (A : Nat → Prop) (h1 : Nat) (u : Nat × ClassId) (t : State) : Prop := match u with
  | (q, cA) => va_P (dC, dI) classes [(h1, .inr (1, [.long (lN 0), .long (lN 0), .long (lN 0), .long (lN 0), .int (nI 0), .int (nI 0), .int (nI 0), .int (nI 0), .ref q])), (q, .inl (cA, 30, .inr (.inl (fun j => lN (zg j)))))] t.heap ∧ va_K (dC, dI) classes [(cA, .long)] t ∧ va_D A [(h1, .inr (1, [.long (lN 0), .long (lN 0), .long (lN 0), .long (lN 0), .int (nI 0), .int (nI 0), .int (nI 0), .int (nI 0), .ref q])), (q, .inl (cA, 30, .inr (.inl (fun j => lN (zg j)))))]
theorem df_M : ∀ j, j < 9 → defaultValue (t_M j) = vp_V [.long (lN 0), .long (lN 0), .long (lN 0), .long (lN 0), .int (nI 0), .int (nI 0), .int (nI 0), .int (nI 0), .null] j := by
  intro j hj
  match j, hj with
  | 0, _ => rfl
  | 1, _ => rfl
  | 2, _ => rfl
  | 3, _ => rfl
  | 4, _ => rfl
  | 5, _ => rfl
  | 6, _ => rfl
  | 7, _ => rfl
  | 8, _ => rfl
  | n + 9, h => exact absurd h (by omega)
set_option maxHeartbeats 4000000 in
set_option maxRecDepth 100000 in
theorem c_M_init (l : Launch) (dC : Nat → ClassId) (dI : Nat → Nat → Nat) (h1 sz : Nat) : Met l y_M_init w_M_init ({ frames := 1, cells := 1, slots := 30, locals := 16 }) (va_Pc [.ref h1] (fun U => U.heap.size = sz ∧ va_P (dC, dI) classes [(h1, .inr (1, [.long (lN 0), .long (lN 0), .long (lN 0), .long (lN 0), .int (nI 0), .int (nI 0), .int (nI 0), .int (nI 0), .null]))] U.heap ∧ va_K (dC, dI) classes [] U ∧ va_D (fun _ => True) [(h1, .inr (1, [.long (lN 0), .long (lN 0), .long (lN 0), .long (lN 0), .int (nI 0), .int (nI 0), .int (nI 0), .int (nI 0), .null]))])) (va_Qv (fun (_ : Nat × ClassId) => True) (at_M_init dC dI (va_A [(h1, .inr (1, [.long (lN 0), .long (lN 0), .long (lN 0), .long (lN 0), .int (nI 0), .int (nI 0), .int (nI 0), .int (nI 0), .null]))] sz) h1) (va_A [(h1, .inr (1, [.long (lN 0), .long (lN 0), .long (lN 0), .long (lN 0), .int (nI 0), .int (nI 0), .int (nI 0), .int (nI 0), .null]))] sz)) 1 30 (va_A [(h1, .inr (1, [.long (lN 0), .long (lN 0), .long (lN 0), .long (lN 0), .int (nI 0), .int (nI 0), .int (nI 0), .int (nI 0), .null]))] sz) := by
  refine Met.ofW (cc := b_M_init) (maxL := 1) (ret := none) (by decide) rfl ?_
  intro pg ev s mi args below meth co s₁ B hml hv
  obtain ⟨rfl, hsz, hP, hK, hD0⟩ := hv
  have hx := B.exec
  have hb := B.bytes
  have hr := B.returns
  have hts := atoms_spec (ws := w_M_init) B.pre
  have hown : s.vm.findClass R_M = some mi.cls := findClass_of_methodNamed B.named
  have hlocks := B.notSynchronized
  have hin : meth.name = "<init>" := (name_of_methodNamed B.named B.method).1
  subst hsz
  have hD := hD0.self (sz := s.heap.size)
  generalize hAe : va_A [(h1, .inr (1, [.long (lN 0), .long (lN 0), .long (lN 0), .long (lN 0), .int (nI 0), .int (nI 0), .int (nI 0), .int (nI 0), .null]))] s.heap.size = A at hD ⊢
  have hA : ∀ q : Nat, s.heap.size ≤ q → A q := fun q h => by rw [← hAe]; exact Or.inr h
  have hS : va_S A s.heap s.heap [] := va_S.rf
  have hP : va_P (dC, dI) classes [(h1, .inr (1, [.long (lN 0), .long (lN 0), .long (lN 0), .long (lN 0), .int (nI 0), .int (nI 0), .int (nI 0), .int (nI 0), .null]))] s.heap := hP
  have hl := lv_entry ([.ref h1]) (n := 1) (Nat.le_of_ble_eq_true rfl)
  rw [lg_entry_eq]
  generalize (lg_sl ([.ref h1]) ++ List.replicate (1 - (lg_sl ([.ref h1])).length) Slot.unset).toArray = ls at hl ⊢
  have hl : lv_has ls 1 [(0, .ref h1)] := hl
  refine lv_aload_n hx hb d_M_init_0 rfl (lv_at hl 0 rfl) ?_
  refine W.objInit hx hb hown (hts _ (al_m aw_t206)) (hts _ (al_m aw_t11)) (hts _ (al_m k_Object_init)) rfl (by rw [hml]; exact hl.1) rfl d_M_init_1 (Nat.le_of_ble_eq_true rfl) (Nat.le_of_ble_eq_true rfl) ?_
  refine W.eq (g2 := F0 mi 4 ls []) rfl ?_
  refine lv_aload_n hx hb d_M_init_4 rfl (lv_at hl 0 rfl) ?_
  refine lv_bipush (v := nI 30) hx hb d_M_init_5 (by decide) ?_
  refine va_newa (a0 := (30, .inr (.inl (fun j => lN (zg j))))) (ty := .long) (N' := 30) hx hb (hts _ (al_m aw_t53)) rfl hK hP hD hS hA (fun cA => rfl) (by decide) (by decide) (by decide) (Nat.le_of_ble_eq_true rfl) (Nat.le_of_ble_eq_true rfl) d_M_init_7 (fun q cA H hK hP hD hS => ?_)
  have hP : va_P (dC, dI) classes [(h1, .inr (1, [.long (lN 0), .long (lN 0), .long (lN 0), .long (lN 0), .int (nI 0), .int (nI 0), .int (nI 0), .int (nI 0), .null])), (q, .inl (cA, 30, .inr (.inl (fun j => lN (zg j)))))] H := hP
  have hD : va_D A [(h1, .inr (1, [.long (lN 0), .long (lN 0), .long (lN 0), .long (lN 0), .int (nI 0), .int (nI 0), .int (nI 0), .int (nI 0), .null])), (q, .inl (cA, 30, .inr (.inl (fun j => lN (zg j)))))] := hD
  have hK : va_K (dC, dI) classes [(cA, .long)] s := hK
  refine va_putF (D := (dC, dI)) (ci := 1) (v := .ref q) (ty := .array .long) (C := R_M) (T := F_M) (N := 9) hx hb hts f_M t_M t_M_ok n_M hown hK hP hD hS 0 rfl rfl 8 (by decide) (hts _ (al_m aw_t215)) (fun _ h9 => h9) rfl hin rfl (by decide +kernel) rfl rfl (Nat.le_of_ble_eq_true rfl) d_M_init_9 (fun H locs hP hD hS => ?_)
  have hP : va_P (dC, dI) classes [(h1, .inr (1, [.long (lN 0), .long (lN 0), .long (lN 0), .long (lN 0), .int (nI 0), .int (nI 0), .int (nI 0), .int (nI 0), .ref q])), (q, .inl (cA, 30, .inr (.inl (fun j => lN (zg j)))))] H := hP
  have hD : va_D A [(h1, .inr (1, [.long (lN 0), .long (lN 0), .long (lN 0), .long (lN 0), .int (nI 0), .int (nI 0), .int (nI 0), .int (nI 0), .ref q])), (q, .inl (cA, 30, .inr (.inl (fun j => lN (zg j)))))] := hD
  exact W.vret hx hb hr (fun t ht hW => ⟨⟨(q, cA), rfl, trivial, by rw [ht]; exact hP, va_K.moved hW.alike hK, hD⟩, hS.F ht⟩) hS.2.2 d_M_init_12 hlocks
