set_option maxHeartbeats 4000000 in
set_option maxRecDepth 100000 in
theorem c_X_hasKey (l : Launch) (dC : Nat → ClassId) (dI : Nat → Nat → Nat) (h0 q0 : Nat) (cA : ClassId) (p q cx rd cl tt bc : Nat) (g : Nat → Nat) (hn : p * q ≤ 52441) : Met l y_X_hasKey w_X_hasKey ({ frames := 0, cells := 0, slots := 0, locals := 0 }) (va_Pc [.ref h0] (fun U => va_P (dC, dI) classes [(h0, .inr (0, [.int (nI p), .int (nI q), .int (nI (p * q)), .long (lN (p * q * (p * q))), .long (lN (sp_f p q)), .long (lN (sp_inv p q)), .long (lN (sp_cex p q)), .int (nI cx), .int (nI rd), .int (nI cl), .long (lN tt), .int (nI bc), .ref q0])), (q0, .inl (cA, 30, .inr (.inl (fun j => lN (g j)))))] U.heap ∧ va_K (dC, dI) classes [(cA, .long)] U)) (qI (bI (decide (0 < p * q)))) 0 0 (fun _ => False) := by
  refine Met.ofW (cc := b_X_hasKey) (maxL := 1) (ret := some .boolean) (by decide) rfl ?_
  intro pg ev s mi args below meth co s₁ B hml hv
  obtain ⟨rfl, hP, hK⟩ := hv
  have hx := B.exec
  have hb := B.bytes
  have hr := B.returns
  have hts := atoms_spec (ws := w_X_hasKey) B.pre
  have hown : s.vm.findClass R_X = some mi.cls := findClass_of_methodNamed B.named
  have hlocks := B.notSynchronized
  have hS : va_S (fun _ => False) s.heap s.heap [] := va_S.rf
  have hP : va_P (dC, dI) classes [(h0, .inr (0, [.int (nI p), .int (nI q), .int (nI (p * q)), .long (lN (p * q * (p * q))), .long (lN (sp_f p q)), .long (lN (sp_inv p q)), .long (lN (sp_cex p q)), .int (nI cx), .int (nI rd), .int (nI cl), .long (lN tt), .int (nI bc), .ref q0])), (q0, .inl (cA, 30, .inr (.inl (fun j => lN (g j)))))] s.heap := hP
  have hl := lv_entry ([.ref h0]) (n := 1) (Nat.le_of_ble_eq_true rfl)
  rw [lg_entry_eq]
  generalize (lg_sl ([.ref h0]) ++ List.replicate (1 - (lg_sl ([.ref h0])).length) Slot.unset).toArray = ls at hl ⊢
  have hl : lv_has ls 1 [(0, .ref h0)] := hl
  refine lv_aload_n hx hb d_X_hasKey_0 rfl (lv_at hl 0 rfl) ?_
  refine va_get (D := (dC, dI)) (ci := 0) (v := .int (nI (p * q))) (C := R_X) (T := F_X) (N := 13) hx hb hts f_X hown hK hP 0 rfl rfl 2 (by decide) (hts _ (al_m aw_t15)) (fun _ h9 => h9) rfl d_X_hasKey_1 ?_
  refine lv_if_le (tgt := 11) hx hb d_X_hasKey_4 (by decide) (fun hc4 => ?_) (fun hc4 => ?_)
  · skip
    rw [← nI_0] at hc4
    rw [nI_leI (a := p * q) (b := 0) (by omega) (by omega)] at hc4
    refine lv_iconst (v := nI 0) hx hb d_X_hasKey_11 (by decide) ?_
    exact pu_zret hx hb hr (by decide) hS d_X_hasKey_12 hlocks ((bI_f (by simp only [Bool.and_eq_false_iff, decide_eq_false_iff_not]; omega)).symm)
  · skip
    rw [← nI_0] at hc4
    rw [nI_leI (a := p * q) (b := 0) (by omega) (by omega)] at hc4
    refine lv_iconst (v := nI 1) hx hb d_X_hasKey_7 (by decide) ?_
    refine lv_goto (tgt := 12) hx hb d_X_hasKey_8 (by decide) ?_
    exact pu_zret hx hb hr (by decide) hS d_X_hasKey_12 hlocks ((bI_t (by simp only [Bool.and_eq_true, decide_eq_true_eq]; omega)).symm)

set_option maxHeartbeats 4000000 in
set_option maxRecDepth 100000 in
theorem c_X_hasBox (l : Launch) (dC : Nat → ClassId) (dI : Nat → Nat → Nat) (h0 q0 : Nat) (cA : ClassId) (p q cx rd cl tt bc : Nat) (g : Nat → Nat) (hcx : cx ≤ 6) : Met l y_X_hasBox w_X_hasBox ({ frames := 0, cells := 0, slots := 0, locals := 0 }) (va_Pc [.ref h0] (fun U => va_P (dC, dI) classes [(h0, .inr (0, [.int (nI p), .int (nI q), .int (nI (p * q)), .long (lN (p * q * (p * q))), .long (lN (sp_f p q)), .long (lN (sp_inv p q)), .long (lN (sp_cex p q)), .int (nI cx), .int (nI rd), .int (nI cl), .long (lN tt), .int (nI bc), .ref q0])), (q0, .inl (cA, 30, .inr (.inl (fun j => lN (g j)))))] U.heap ∧ va_K (dC, dI) classes [(cA, .long)] U)) (qI (bI (decide (0 < cx)))) 0 0 (fun _ => False) := by
  refine Met.ofW (cc := b_X_hasBox) (maxL := 1) (ret := some .boolean) (by decide) rfl ?_
  intro pg ev s mi args below meth co s₁ B hml hv
  obtain ⟨rfl, hP, hK⟩ := hv
  have hx := B.exec
  have hb := B.bytes
  have hr := B.returns
  have hts := atoms_spec (ws := w_X_hasBox) B.pre
  have hown : s.vm.findClass R_X = some mi.cls := findClass_of_methodNamed B.named
  have hlocks := B.notSynchronized
  have hS : va_S (fun _ => False) s.heap s.heap [] := va_S.rf
  have hP : va_P (dC, dI) classes [(h0, .inr (0, [.int (nI p), .int (nI q), .int (nI (p * q)), .long (lN (p * q * (p * q))), .long (lN (sp_f p q)), .long (lN (sp_inv p q)), .long (lN (sp_cex p q)), .int (nI cx), .int (nI rd), .int (nI cl), .long (lN tt), .int (nI bc), .ref q0])), (q0, .inl (cA, 30, .inr (.inl (fun j => lN (g j)))))] s.heap := hP
  have hl := lv_entry ([.ref h0]) (n := 1) (Nat.le_of_ble_eq_true rfl)
  rw [lg_entry_eq]
  generalize (lg_sl ([.ref h0]) ++ List.replicate (1 - (lg_sl ([.ref h0])).length) Slot.unset).toArray = ls at hl ⊢
  have hl : lv_has ls 1 [(0, .ref h0)] := hl
  refine lv_aload_n hx hb d_X_hasBox_0 rfl (lv_at hl 0 rfl) ?_
  refine va_get (D := (dC, dI)) (ci := 0) (v := .int (nI cx)) (C := R_X) (T := F_X) (N := 13) hx hb hts f_X hown hK hP 0 rfl rfl 7 (by decide) (hts _ (al_m aw_t20)) (fun _ h9 => h9) rfl d_X_hasBox_1 ?_
  refine lv_if_le (tgt := 11) hx hb d_X_hasBox_4 (by decide) (fun hc4 => ?_) (fun hc4 => ?_)
  · skip
    rw [← nI_0] at hc4
    rw [nI_leI (a := cx) (b := 0) (by omega) (by omega)] at hc4
    refine lv_iconst (v := nI 0) hx hb d_X_hasBox_11 (by decide) ?_
    exact pu_zret hx hb hr (by decide) hS d_X_hasBox_12 hlocks ((bI_f (by simp only [Bool.and_eq_false_iff, decide_eq_false_iff_not]; omega)).symm)
  · skip
    rw [← nI_0] at hc4
    rw [nI_leI (a := cx) (b := 0) (by omega) (by omega)] at hc4
    refine lv_iconst (v := nI 1) hx hb d_X_hasBox_7 (by decide) ?_
    refine lv_goto (tgt := 12) hx hb d_X_hasBox_8 (by decide) ?_
    exact pu_zret hx hb hr (by decide) hS d_X_hasBox_12 hlocks ((bI_t (by simp only [Bool.and_eq_true, decide_eq_true_eq]; omega)).symm)

set_option maxHeartbeats 4000000 in
set_option maxRecDepth 100000 in
theorem c_X_isMessage (l : Launch) (dC : Nat → ClassId) (dI : Nat → Nat → Nat) (h0 q0 : Nat) (cA : ClassId) (p q cx rd cl tt bc : Nat) (g : Nat → Nat) (x : Int64) (hn : p * q ≤ 52441) : Met l y_X_isMessage w_X_isMessage ({ frames := 0, cells := 0, slots := 0, locals := 0 }) (va_Pc [.ref h0, .long x] (fun U => va_P (dC, dI) classes [(h0, .inr (0, [.int (nI p), .int (nI q), .int (nI (p * q)), .long (lN (p * q * (p * q))), .long (lN (sp_f p q)), .long (lN (sp_inv p q)), .long (lN (sp_cex p q)), .int (nI cx), .int (nI rd), .int (nI cl), .long (lN tt), .int (nI bc), .ref q0])), (q0, .inl (cA, 30, .inr (.inl (fun j => lN (g j)))))] U.heap ∧ va_K (dC, dI) classes [(cA, .long)] U)) (qI (bI (sp_isM p q x))) 0 0 (fun _ => False) := by
  refine Met.ofW (cc := b_X_isMessage) (maxL := 3) (ret := some .boolean) (by decide) rfl ?_
  intro pg ev s mi args below meth co s₁ B hml hv
  obtain ⟨rfl, hP, hK⟩ := hv
  have hx := B.exec
  have hb := B.bytes
  have hr := B.returns
  have hts := atoms_spec (ws := w_X_isMessage) B.pre
  have hown : s.vm.findClass R_X = some mi.cls := findClass_of_methodNamed B.named
  have hlocks := B.notSynchronized
  have hS : va_S (fun _ => False) s.heap s.heap [] := va_S.rf
  have hP : va_P (dC, dI) classes [(h0, .inr (0, [.int (nI p), .int (nI q), .int (nI (p * q)), .long (lN (p * q * (p * q))), .long (lN (sp_f p q)), .long (lN (sp_inv p q)), .long (lN (sp_cex p q)), .int (nI cx), .int (nI rd), .int (nI cl), .long (lN tt), .int (nI bc), .ref q0])), (q0, .inl (cA, 30, .inr (.inl (fun j => lN (g j)))))] s.heap := hP
  have hl := lv_entry ([.ref h0, .long x]) (n := 3) (Nat.le_of_ble_eq_true rfl)
  rw [lg_entry_eq]
  generalize (lg_sl ([.ref h0, .long x]) ++ List.replicate (3 - (lg_sl ([.ref h0, .long x])).length) Slot.unset).toArray = ls at hl ⊢
  have hl : lv_has ls 3 [(0, .ref h0), (1, .long x)] := hl
  refine lv_lload_n hx hb d_X_isMessage_0 rfl (lv_at hl 1 rfl) ?_
  refine lv_lconst (v := lN 0) hx hb d_X_isMessage_1 rfl ?_
  refine W.lcmp hx hb d_X_isMessage_2 ?_
  refine lv_if_lt (tgt := 20) hx hb d_X_isMessage_3 (by decide) (fun hc3 => ?_) (fun hc3 => ?_)
  · skip
    rw [lg_cmp_lt] at hc3
    rw [lx_lt (x := x) (n := 0) (by omega)] at hc3
    refine lv_iconst (v := nI 0) hx hb d_X_isMessage_20 (by decide) ?_
    exact pu_zret hx hb hr (by decide) hS d_X_isMessage_21 hlocks ((bI_f (by simp only [sp_isM, Bool.and_eq_false_iff, decide_eq_false_iff_not]; omega)).symm)
  · skip
    rw [lg_cmp_lt] at hc3
    rw [lx_lt (x := x) (n := 0) (by omega)] at hc3
    refine lv_lload_n hx hb d_X_isMessage_6 rfl (lv_at hl 1 rfl) ?_
    refine lv_aload_n hx hb d_X_isMessage_7 rfl (lv_at hl 0 rfl) ?_
    refine va_get (D := (dC, dI)) (ci := 0) (v := .int (nI (p * q))) (C := R_X) (T := F_X) (N := 13) hx hb hts f_X hown hK hP 0 rfl rfl 2 (by decide) (hts _ (al_m aw_t15)) (fun _ h9 => h9) rfl d_X_isMessage_8 ?_
    refine lv_i2l (v := lN (p * q)) hx hb d_X_isMessage_11 (nI_l (by omega)) ?_
    refine W.lcmp hx hb d_X_isMessage_12 ?_
    refine lv_if_ge (tgt := 20) hx hb d_X_isMessage_13 (by decide) (fun hc13 => ?_) (fun hc13 => ?_)
    · skip
      rw [lg_cmp_ge] at hc13
      rw [lx_le (x := x) (n := p * q) (by omega)] at hc13
      refine lv_iconst (v := nI 0) hx hb d_X_isMessage_20 (by decide) ?_
      exact pu_zret hx hb hr (by decide) hS d_X_isMessage_21 hlocks ((bI_f (by simp only [sp_isM, Bool.and_eq_false_iff, decide_eq_false_iff_not]; omega)).symm)
    · skip
      rw [lg_cmp_ge] at hc13
      rw [lx_le (x := x) (n := p * q) (by omega)] at hc13
      refine lv_iconst (v := nI 1) hx hb d_X_isMessage_16 (by decide) ?_
      refine lv_goto (tgt := 21) hx hb d_X_isMessage_17 (by decide) ?_
      exact pu_zret hx hb hr (by decide) hS d_X_isMessage_21 hlocks ((bI_t (by simp only [sp_isM, Bool.and_eq_true, decide_eq_true_eq]; omega)).symm)

set_option maxHeartbeats 4000000 in
set_option maxRecDepth 100000 in
theorem c_X_isCandidate (l : Launch) (dC : Nat → ClassId) (dI : Nat → Nat → Nat) (h0 q0 : Nat) (cA : ClassId) (p q cx rd cl tt bc : Nat) (g : Nat → Nat) (x : Int32) (hcx : cx ≤ 6) : Met l y_X_isCandidate w_X_isCandidate ({ frames := 0, cells := 0, slots := 0, locals := 0 }) (va_Pc [.ref h0, .int x] (fun U => va_P (dC, dI) classes [(h0, .inr (0, [.int (nI p), .int (nI q), .int (nI (p * q)), .long (lN (p * q * (p * q))), .long (lN (sp_f p q)), .long (lN (sp_inv p q)), .long (lN (sp_cex p q)), .int (nI cx), .int (nI rd), .int (nI cl), .long (lN tt), .int (nI bc), .ref q0])), (q0, .inl (cA, 30, .inr (.inl (fun j => lN (g j)))))] U.heap ∧ va_K (dC, dI) classes [(cA, .long)] U)) (qI (bI (sp_cand cx x))) 0 0 (fun _ => False) := by
  refine Met.ofW (cc := b_X_isCandidate) (maxL := 2) (ret := some .boolean) (by decide) rfl ?_
  intro pg ev s mi args below meth co s₁ B hml hv
  obtain ⟨rfl, hP, hK⟩ := hv
  have hx := B.exec
  have hb := B.bytes
  have hr := B.returns
  have hts := atoms_spec (ws := w_X_isCandidate) B.pre
  have hown : s.vm.findClass R_X = some mi.cls := findClass_of_methodNamed B.named
  have hlocks := B.notSynchronized
  have hS : va_S (fun _ => False) s.heap s.heap [] := va_S.rf
  have hP : va_P (dC, dI) classes [(h0, .inr (0, [.int (nI p), .int (nI q), .int (nI (p * q)), .long (lN (p * q * (p * q))), .long (lN (sp_f p q)), .long (lN (sp_inv p q)), .long (lN (sp_cex p q)), .int (nI cx), .int (nI rd), .int (nI cl), .long (lN tt), .int (nI bc), .ref q0])), (q0, .inl (cA, 30, .inr (.inl (fun j => lN (g j)))))] s.heap := hP
  have hl := lv_entry ([.ref h0, .int x]) (n := 2) (Nat.le_of_ble_eq_true rfl)
  rw [lg_entry_eq]
  generalize (lg_sl ([.ref h0, .int x]) ++ List.replicate (2 - (lg_sl ([.ref h0, .int x])).length) Slot.unset).toArray = ls at hl ⊢
  have hl : lv_has ls 2 [(0, .ref h0), (1, .int x)] := hl
  refine lv_iload_n hx hb d_X_isCandidate_0 rfl (lv_at hl 1 rfl) ?_
  refine lv_if_lt (tgt := 16) hx hb d_X_isCandidate_1 (by decide) (fun hc1 => ?_) (fun hc1 => ?_)
  · skip
    rw [← nI_0] at hc1
    rw [ix_lt (x := x) (n := 0) (by omega)] at hc1
    refine lv_iconst (v := nI 0) hx hb d_X_isCandidate_16 (by decide) ?_
    exact pu_zret hx hb hr (by decide) hS d_X_isCandidate_17 hlocks ((bI_f (by simp only [sp_cand, Bool.and_eq_false_iff, decide_eq_false_iff_not]; omega)).symm)
  · skip
    rw [← nI_0] at hc1
    rw [ix_lt (x := x) (n := 0) (by omega)] at hc1
    refine lv_iload_n hx hb d_X_isCandidate_4 rfl (lv_at hl 1 rfl) ?_
    refine lv_aload_n hx hb d_X_isCandidate_5 rfl (lv_at hl 0 rfl) ?_
    refine va_get (D := (dC, dI)) (ci := 0) (v := .int (nI cx)) (C := R_X) (T := F_X) (N := 13) hx hb hts f_X hown hK hP 0 rfl rfl 7 (by decide) (hts _ (al_m aw_t20)) (fun _ h9 => h9) rfl d_X_isCandidate_6 ?_
    refine lv_icmp_ge (tgt := 16) hx hb d_X_isCandidate_9 (by decide) (fun hc9 => ?_) (fun hc9 => ?_)
    · skip
      rw [ix_le (x := x) (n := cx) (by omega)] at hc9
      refine lv_iconst (v := nI 0) hx hb d_X_isCandidate_16 (by decide) ?_
      exact pu_zret hx hb hr (by decide) hS d_X_isCandidate_17 hlocks ((bI_f (by simp only [sp_cand, Bool.and_eq_false_iff, decide_eq_false_iff_not]; omega)).symm)
    · skip
      rw [ix_le (x := x) (n := cx) (by omega)] at hc9
      refine lv_iconst (v := nI 1) hx hb d_X_isCandidate_12 (by decide) ?_
      refine lv_goto (tgt := 17) hx hb d_X_isCandidate_13 (by decide) ?_
      exact pu_zret hx hb hr (by decide) hS d_X_isCandidate_17 hlocks ((bI_t (by simp only [sp_cand, Bool.and_eq_true, decide_eq_true_eq]; omega)).symm)

set_option maxHeartbeats 4000000 in
set_option maxRecDepth 100000 in
theorem c_X_isVoter (l : Launch) (x : Int32)  : Met l y_X_isVoter w_X_isVoter ({ frames := 0, cells := 0, slots := 0, locals := 0 }) (va_Pc [.int x] (fun _ => True)) (qI (bI (sp_cand 30 x))) 0 0 (fun _ => False) := by
  refine Met.ofW (cc := b_X_isVoter) (maxL := 1) (ret := some .boolean) (by decide) rfl ?_
  intro pg ev s mi args below meth co s₁ B hml hv
  obtain ⟨rfl, -⟩ := hv
  have hx := B.exec
  have hb := B.bytes
  have hr := B.returns
  have hts := atoms_spec (ws := w_X_isVoter) B.pre
  have hown : s.vm.findClass R_X = some mi.cls := findClass_of_methodNamed B.named
  have hlocks := B.notSynchronized
  have hS : va_S (fun _ => False) s.heap s.heap [] := va_S.rf
  have hl := lv_entry ([.int x]) (n := 1) (Nat.le_of_ble_eq_true rfl)
  rw [lg_entry_eq]
  generalize (lg_sl ([.int x]) ++ List.replicate (1 - (lg_sl ([.int x])).length) Slot.unset).toArray = ls at hl ⊢
  have hl : lv_has ls 1 [(0, .int x)] := hl
  refine lv_iload_n hx hb d_X_isVoter_0 rfl (lv_at hl 0 rfl) ?_
  refine lv_if_lt (tgt := 14) hx hb d_X_isVoter_1 (by decide) (fun hc1 => ?_) (fun hc1 => ?_)
  · skip
    rw [← nI_0] at hc1
    rw [ix_lt (x := x) (n := 0) (by omega)] at hc1
    refine lv_iconst (v := nI 0) hx hb d_X_isVoter_14 (by decide) ?_
    exact pu_zret hx hb hr (by decide) hS d_X_isVoter_15 hlocks ((bI_f (by simp only [sp_cand, Bool.and_eq_false_iff, decide_eq_false_iff_not]; omega)).symm)
  · skip
    rw [← nI_0] at hc1
    rw [ix_lt (x := x) (n := 0) (by omega)] at hc1
    refine lv_iload_n hx hb d_X_isVoter_4 rfl (lv_at hl 0 rfl) ?_
    refine lv_bipush (v := nI 30) hx hb d_X_isVoter_5 (by decide) ?_
    refine lv_icmp_ge (tgt := 14) hx hb d_X_isVoter_7 (by decide) (fun hc7 => ?_) (fun hc7 => ?_)
    · skip
      rw [ix_le (x := x) (n := 30) (by omega)] at hc7
      refine lv_iconst (v := nI 0) hx hb d_X_isVoter_14 (by decide) ?_
      exact pu_zret hx hb hr (by decide) hS d_X_isVoter_15 hlocks ((bI_f (by simp only [sp_cand, Bool.and_eq_false_iff, decide_eq_false_iff_not]; omega)).symm)
    · skip
      rw [ix_le (x := x) (n := 30) (by omega)] at hc7
      refine lv_iconst (v := nI 1) hx hb d_X_isVoter_10 (by decide) ?_
      refine lv_goto (tgt := 15) hx hb d_X_isVoter_11 (by decide) ?_
      exact pu_zret hx hb hr (by decide) hS d_X_isVoter_15 hlocks ((bI_t (by simp only [sp_cand, Bool.and_eq_true, decide_eq_true_eq]; omega)).symm)

set_option maxHeartbeats 4000000 in
set_option maxRecDepth 100000 in
theorem c_X_sharesNoFactor (l : Launch) (dC : Nat → ClassId) (dI : Nat → Nat → Nat) (h0 q0 : Nat) (cA : ClassId) (p q cx rd cl tt bc : Nat) (g : Nat → Nat) (k : Nat) (hk : ma_K p q) (hkk : k < 2 ^ 63) : Met l y_X_sharesNoFactor w_X_sharesNoFactor ({ frames := 1, cells := 0, slots := 0, locals := 20 }) (va_Pc [.ref h0, .long (lN k)] (fun U => va_P (dC, dI) classes [(h0, .inr (0, [.int (nI p), .int (nI q), .int (nI (p * q)), .long (lN (p * q * (p * q))), .long (lN (sp_f p q)), .long (lN (sp_inv p q)), .long (lN (sp_cex p q)), .int (nI cx), .int (nI rd), .int (nI cl), .long (lN tt), .int (nI bc), .ref q0])), (q0, .inl (cA, 30, .inr (.inl (fun j => lN (g j)))))] U.heap ∧ va_K (dC, dI) classes [(cA, .long)] U)) (qI (bI (sp_un p q k))) 0 0 (fun _ => False) := by
  refine Met.ofW (cc := b_X_sharesNoFactor) (maxL := 3) (ret := some .boolean) (by decide) rfl ?_
  intro pg ev s mi args below meth co s₁ B hml hv
  obtain ⟨rfl, hP, hK⟩ := hv
  have hx := B.exec
  have hb := B.bytes
  have hr := B.returns
  have hts := atoms_spec (ws := w_X_sharesNoFactor) B.pre
  have hown : s.vm.findClass R_X = some mi.cls := findClass_of_methodNamed B.named
  have hlocks := B.notSynchronized
  have hS : va_S (fun _ => False) s.heap s.heap [] := va_S.rf
  have hP : va_P (dC, dI) classes [(h0, .inr (0, [.int (nI p), .int (nI q), .int (nI (p * q)), .long (lN (p * q * (p * q))), .long (lN (sp_f p q)), .long (lN (sp_inv p q)), .long (lN (sp_cex p q)), .int (nI cx), .int (nI rd), .int (nI cl), .long (lN tt), .int (nI bc), .ref q0])), (q0, .inl (cA, 30, .inr (.inl (fun j => lN (g j)))))] s.heap := hP
  have hl := lv_entry ([.ref h0, .long (lN k)]) (n := 3) (Nat.le_of_ble_eq_true rfl)
  rw [lg_entry_eq]
  generalize (lg_sl ([.ref h0, .long (lN k)]) ++ List.replicate (3 - (lg_sl ([.ref h0, .long (lN k)])).length) Slot.unset).toArray = ls at hl ⊢
  have hl : lv_has ls 3 [(0, .ref h0), (1, .long (lN k))] := hl
  have hbg := ma_big hk
  have hp3 := hk.1.1
  have hq3 := hk.2.1.1
  have hp9 := hk.1.2.1
  have hq9 := hk.2.1.2.1
  have hkf := ma_keyf hk
  refine lv_aload_n hx hb d_X_sharesNoFactor_0 rfl (lv_at hl 0 rfl) ?_
  refine pu_i (va_runV (As := []) (rest := []) ⟨hx, hb, hml, hown, hts⟩ (c_X_hasKey l dC dI h0 q0 cA p q cx rd cl tt bc g (by omega)) (cwV 0 hts (al_V (k_X_hasKey) (aw_t75) (aw_t77) (aw_p0) (aw_t1)) rfl rfl rfl (by decide +kernel) ⟨Nat.le_of_ble_eq_true rfl, Nat.le_of_ble_eq_true rfl⟩) (pu_preV (q0 := 0) (ci := 0) hK hP rfl rfl) rfl rfl hl.1 rfl (lv_room (Nat.le_of_ble_eq_true rfl)) d_X_sharesNoFactor_1 ⟨Nat.zero_le _, Nat.zero_le _⟩) hS (fun H locs hkp hS => ?_)
  have hP := hkp _ _ _ hP
  refine lv_if_eq (tgt := 35) hx hb d_X_sharesNoFactor_4 (by decide) (fun hc4 => ?_) (fun hc4 => ?_)
  · skip
    rw [bI_0] at hc4
    exact absurd (of_decide_eq_false hc4) (by omega)
  · skip
    rw [bI_0] at hc4
    rw [Bool.not_eq_false] at hc4
    refine lv_lload_n hx hb d_X_sharesNoFactor_7 rfl (lv_at hl 1 rfl) ?_
    refine lv_aload_n hx hb d_X_sharesNoFactor_8 rfl (lv_at hl 0 rfl) ?_
    refine va_get (D := (dC, dI)) (ci := 0) (v := .int (nI p)) (C := R_X) (T := F_X) (N := 13) hx hb hts f_X hown hK hP 0 rfl rfl 0 (by decide) (hts _ (al_m aw_t13)) (fun _ h9 => h9) rfl d_X_sharesNoFactor_9 ?_
    refine lv_i2l (v := lN p) hx hb d_X_sharesNoFactor_12 (nI_l (by omega)) ?_
    refine lv_lrem hx hb d_X_sharesNoFactor_13 (lN_ne0 (by omega) (by omega)) ?_
    refine wk_l (y := lN (k % p)) (pk_lRem (by omega) (by omega) (by omega)) ?_
    have hm13 := Nat.mod_le k p
    refine lv_lconst (v := lN 0) hx hb d_X_sharesNoFactor_14 rfl ?_
    refine W.lcmp hx hb d_X_sharesNoFactor_15 ?_
    refine lv_if_eq (tgt := 35) hx hb d_X_sharesNoFactor_16 (by decide) (fun hc16 => ?_) (fun hc16 => ?_)
    · skip
      rw [lg_cmp_eq] at hc16
      rw [pk_lEQ (a := k % p) (b := 0) (by omega) (by omega)] at hc16
      refine lv_iconst (v := nI 0) hx hb d_X_sharesNoFactor_35 (by decide) ?_
      exact pu_zret hx hb hr (by decide) hS d_X_sharesNoFactor_36 hlocks ((bI_f (by simp only [sp_un, ne_eq, Bool.and_eq_false_iff, decide_eq_false_iff_not]; omega)).symm)
    · skip
      rw [lg_cmp_eq] at hc16
      rw [pk_lEQ (a := k % p) (b := 0) (by omega) (by omega)] at hc16
      refine lv_lload_n hx hb d_X_sharesNoFactor_19 rfl (lv_at hl 1 rfl) ?_
      refine lv_aload_n hx hb d_X_sharesNoFactor_20 rfl (lv_at hl 0 rfl) ?_
      refine va_get (D := (dC, dI)) (ci := 0) (v := .int (nI q)) (C := R_X) (T := F_X) (N := 13) hx hb hts f_X hown hK hP 0 rfl rfl 1 (by decide) (hts _ (al_m aw_t14)) (fun _ h9 => h9) rfl d_X_sharesNoFactor_21 ?_
      refine lv_i2l (v := lN q) hx hb d_X_sharesNoFactor_24 (nI_l (by omega)) ?_
      refine lv_lrem hx hb d_X_sharesNoFactor_25 (lN_ne0 (by omega) (by omega)) ?_
      refine wk_l (y := lN (k % q)) (pk_lRem (by omega) (by omega) (by omega)) ?_
      have hm25 := Nat.mod_le k q
      refine lv_lconst (v := lN 0) hx hb d_X_sharesNoFactor_26 rfl ?_
      refine W.lcmp hx hb d_X_sharesNoFactor_27 ?_
      refine lv_if_eq (tgt := 35) hx hb d_X_sharesNoFactor_28 (by decide) (fun hc28 => ?_) (fun hc28 => ?_)
      · skip
        rw [lg_cmp_eq] at hc28
        rw [pk_lEQ (a := k % q) (b := 0) (by omega) (by omega)] at hc28
        refine lv_iconst (v := nI 0) hx hb d_X_sharesNoFactor_35 (by decide) ?_
        exact pu_zret hx hb hr (by decide) hS d_X_sharesNoFactor_36 hlocks ((bI_f (by simp only [sp_un, ne_eq, Bool.and_eq_false_iff, decide_eq_false_iff_not]; omega)).symm)
      · skip
        rw [lg_cmp_eq] at hc28
        rw [pk_lEQ (a := k % q) (b := 0) (by omega) (by omega)] at hc28
        refine lv_iconst (v := nI 1) hx hb d_X_sharesNoFactor_31 (by decide) ?_
        refine lv_goto (tgt := 36) hx hb d_X_sharesNoFactor_32 (by decide) ?_
        exact pu_zret hx hb hr (by decide) hS d_X_sharesNoFactor_36 hlocks ((bI_t (by simp only [sp_un, ne_eq, Bool.and_eq_true, decide_eq_true_eq]; omega)).symm)

set_option maxHeartbeats 4000000 in
set_option maxRecDepth 100000 in
theorem c_X_isCoin (l : Launch) (dC : Nat → ClassId) (dI : Nat → Nat → Nat) (h0 q0 : Nat) (cA : ClassId) (p q cx rd cl tt bc : Nat) (g : Nat → Nat) (x : Int64) (hk : ma_K p q) : Met l y_X_isCoin w_X_isCoin ({ frames := 2, cells := 0, slots := 0, locals := 42 }) (va_Pc [.ref h0, .long x] (fun U => va_P (dC, dI) classes [(h0, .inr (0, [.int (nI p), .int (nI q), .int (nI (p * q)), .long (lN (p * q * (p * q))), .long (lN (sp_f p q)), .long (lN (sp_inv p q)), .long (lN (sp_cex p q)), .int (nI cx), .int (nI rd), .int (nI cl), .long (lN tt), .int (nI bc), .ref q0])), (q0, .inl (cA, 30, .inr (.inl (fun j => lN (g j)))))] U.heap ∧ va_K (dC, dI) classes [(cA, .long)] U)) (qI (bI (sp_isC p q x))) 0 0 (fun _ => False) := by
  refine Met.ofW (cc := b_X_isCoin) (maxL := 3) (ret := some .boolean) (by decide) rfl ?_
  intro pg ev s mi args below meth co s₁ B hml hv
  obtain ⟨rfl, hP, hK⟩ := hv
  have hx := B.exec
  have hb := B.bytes
  have hr := B.returns
  have hts := atoms_spec (ws := w_X_isCoin) B.pre
  have hown : s.vm.findClass R_X = some mi.cls := findClass_of_methodNamed B.named
  have hlocks := B.notSynchronized
  have hS : va_S (fun _ => False) s.heap s.heap [] := va_S.rf
  have hP : va_P (dC, dI) classes [(h0, .inr (0, [.int (nI p), .int (nI q), .int (nI (p * q)), .long (lN (p * q * (p * q))), .long (lN (sp_f p q)), .long (lN (sp_inv p q)), .long (lN (sp_cex p q)), .int (nI cx), .int (nI rd), .int (nI cl), .long (lN tt), .int (nI bc), .ref q0])), (q0, .inl (cA, 30, .inr (.inl (fun j => lN (g j)))))] s.heap := hP
  have hl := lv_entry ([.ref h0, .long x]) (n := 3) (Nat.le_of_ble_eq_true rfl)
  rw [lg_entry_eq]
  generalize (lg_sl ([.ref h0, .long x]) ++ List.replicate (3 - (lg_sl ([.ref h0, .long x])).length) Slot.unset).toArray = ls at hl ⊢
  have hl : lv_has ls 3 [(0, .ref h0), (1, .long x)] := hl
  have hbg := ma_big hk
  have hp3 := hk.1.1
  have hq3 := hk.2.1.1
  have hp9 := hk.1.2.1
  have hq9 := hk.2.1.2.1
  have hkf := ma_keyf hk
  refine lv_lload_n hx hb d_X_isCoin_0 rfl (lv_at hl 1 rfl) ?_
  refine lv_lconst (v := lN 1) hx hb d_X_isCoin_1 rfl ?_
  refine W.lcmp hx hb d_X_isCoin_2 ?_
  refine lv_if_lt (tgt := 28) hx hb d_X_isCoin_3 (by decide) (fun hc3 => ?_) (fun hc3 => ?_)
  · skip
    rw [lg_cmp_lt] at hc3
    rw [lx_lt (x := x) (n := 1) (by omega)] at hc3
    refine lv_iconst (v := nI 0) hx hb d_X_isCoin_28 (by decide) ?_
    exact pu_zret hx hb hr (by decide) hS d_X_isCoin_29 hlocks ((bI_f (by simp only [sp_isC, Bool.and_eq_false_iff, decide_eq_false_iff_not]; omega)).symm)
  · skip
    rw [lg_cmp_lt] at hc3
    rw [lx_lt (x := x) (n := 1) (by omega)] at hc3
    refine lv_lload_n hx hb d_X_isCoin_6 rfl (lv_at hl 1 rfl) ?_
    refine lv_aload_n hx hb d_X_isCoin_7 rfl (lv_at hl 0 rfl) ?_
    refine va_get (D := (dC, dI)) (ci := 0) (v := .int (nI (p * q))) (C := R_X) (T := F_X) (N := 13) hx hb hts f_X hown hK hP 0 rfl rfl 2 (by decide) (hts _ (al_m aw_t15)) (fun _ h9 => h9) rfl d_X_isCoin_8 ?_
    refine lv_i2l (v := lN (p * q)) hx hb d_X_isCoin_11 (nI_l (by omega)) ?_
    refine W.lcmp hx hb d_X_isCoin_12 ?_
    refine lv_if_ge (tgt := 28) hx hb d_X_isCoin_13 (by decide) (fun hc13 => ?_) (fun hc13 => ?_)
    · skip
      rw [lg_cmp_ge] at hc13
      rw [lx_le (x := x) (n := p * q) (by omega)] at hc13
      refine lv_iconst (v := nI 0) hx hb d_X_isCoin_28 (by decide) ?_
      exact pu_zret hx hb hr (by decide) hS d_X_isCoin_29 hlocks ((bI_f (by simp only [sp_isC, Bool.and_eq_false_iff, decide_eq_false_iff_not]; omega)).symm)
    · skip
      rw [lg_cmp_ge] at hc13
      rw [lx_le (x := x) (n := p * q) (by omega)] at hc13
      obtain ⟨k, hkk, rfl⟩ := lx_of (x := x) (by omega)
      rw [pk_lT hkk] at hc3 hc13
      refine lv_aload_n hx hb d_X_isCoin_16 rfl (lv_at hl 0 rfl) ?_
      refine lv_lload_n hx hb d_X_isCoin_17 rfl (lv_at hl 1 rfl) ?_
      refine pu_i (va_runV (As := [.long (lN k)]) (rest := []) ⟨hx, hb, hml, hown, hts⟩ (c_X_sharesNoFactor l dC dI h0 q0 cA p q cx rd cl tt bc g k hk hkk) (cwV 1 hts (al_V (k_X_sharesNoFactor) (aw_t88) (aw_t90) (aw_p3) (aw_t1)) rfl rfl rfl (by decide +kernel) ⟨Nat.le_of_ble_eq_true rfl, Nat.le_of_ble_eq_true rfl⟩) (pu_preV (q0 := 0) (ci := 0) hK hP rfl rfl) rfl rfl hl.1 rfl (lv_room (Nat.le_of_ble_eq_true rfl)) d_X_isCoin_18 ⟨Nat.zero_le _, Nat.zero_le _⟩) hS (fun H locs hkp hS => ?_)
      have hP := hkp _ _ _ hP
      refine lv_if_eq (tgt := 28) hx hb d_X_isCoin_21 (by decide) (fun hc21 => ?_) (fun hc21 => ?_)
      · skip
        rw [bI_0] at hc21
        refine lv_iconst (v := nI 0) hx hb d_X_isCoin_28 (by decide) ?_
        exact pu_zret hx hb hr (by decide) hS d_X_isCoin_29 hlocks ((bI_f (by simp only [sp_isC, lx_nat hkk, pk_lT hkk, Int.toNat_natCast, hc21, Bool.and_false])).symm)
      · skip
        rw [bI_0] at hc21
        rw [Bool.not_eq_false] at hc21
        refine lv_iconst (v := nI 1) hx hb d_X_isCoin_24 (by decide) ?_
        refine lv_goto (tgt := 29) hx hb d_X_isCoin_25 (by decide) ?_
        exact pu_zret hx hb hr (by decide) hS d_X_isCoin_29 hlocks ((bI_t (by simp only [sp_isC, lx_nat hkk, pk_lT hkk, Int.toNat_natCast, hc21, Bool.and_eq_true, decide_eq_true_eq, and_true]; omega)).symm)

set_option maxHeartbeats 4000000 in
set_option maxRecDepth 100000 in
theorem c_X_isSeal (l : Launch) (dC : Nat → ClassId) (dI : Nat → Nat → Nat) (h0 q0 : Nat) (cA : ClassId) (p q cx rd cl tt bc : Nat) (g : Nat → Nat) (x : Int64) (hk : ma_K p q) : Met l y_X_isSeal w_X_isSeal ({ frames := 2, cells := 0, slots := 0, locals := 42 }) (va_Pc [.ref h0, .long x] (fun U => va_P (dC, dI) classes [(h0, .inr (0, [.int (nI p), .int (nI q), .int (nI (p * q)), .long (lN (p * q * (p * q))), .long (lN (sp_f p q)), .long (lN (sp_inv p q)), .long (lN (sp_cex p q)), .int (nI cx), .int (nI rd), .int (nI cl), .long (lN tt), .int (nI bc), .ref q0])), (q0, .inl (cA, 30, .inr (.inl (fun j => lN (g j)))))] U.heap ∧ va_K (dC, dI) classes [(cA, .long)] U)) (qI (bI (sp_isS p q x))) 0 0 (fun _ => False) := by
  refine Met.ofW (cc := b_X_isSeal) (maxL := 3) (ret := some .boolean) (by decide) rfl ?_
  intro pg ev s mi args below meth co s₁ B hml hv
  obtain ⟨rfl, hP, hK⟩ := hv
  have hx := B.exec
  have hb := B.bytes
  have hr := B.returns
  have hts := atoms_spec (ws := w_X_isSeal) B.pre
  have hown : s.vm.findClass R_X = some mi.cls := findClass_of_methodNamed B.named
  have hlocks := B.notSynchronized
  have hS : va_S (fun _ => False) s.heap s.heap [] := va_S.rf
  have hP : va_P (dC, dI) classes [(h0, .inr (0, [.int (nI p), .int (nI q), .int (nI (p * q)), .long (lN (p * q * (p * q))), .long (lN (sp_f p q)), .long (lN (sp_inv p q)), .long (lN (sp_cex p q)), .int (nI cx), .int (nI rd), .int (nI cl), .long (lN tt), .int (nI bc), .ref q0])), (q0, .inl (cA, 30, .inr (.inl (fun j => lN (g j)))))] s.heap := hP
  have hl := lv_entry ([.ref h0, .long x]) (n := 3) (Nat.le_of_ble_eq_true rfl)
  rw [lg_entry_eq]
  generalize (lg_sl ([.ref h0, .long x]) ++ List.replicate (3 - (lg_sl ([.ref h0, .long x])).length) Slot.unset).toArray = ls at hl ⊢
  have hl : lv_has ls 3 [(0, .ref h0), (1, .long x)] := hl
  have hbg := ma_big hk
  have hp3 := hk.1.1
  have hq3 := hk.2.1.1
  have hp9 := hk.1.2.1
  have hq9 := hk.2.1.2.1
  have hkf := ma_keyf hk
  refine lv_lload_n hx hb d_X_isSeal_0 rfl (lv_at hl 1 rfl) ?_
  refine lv_lconst (v := lN 1) hx hb d_X_isSeal_1 rfl ?_
  refine W.lcmp hx hb d_X_isSeal_2 ?_
  refine lv_if_lt (tgt := 27) hx hb d_X_isSeal_3 (by decide) (fun hc3 => ?_) (fun hc3 => ?_)
  · skip
    rw [lg_cmp_lt] at hc3
    rw [lx_lt (x := x) (n := 1) (by omega)] at hc3
    refine lv_iconst (v := nI 0) hx hb d_X_isSeal_27 (by decide) ?_
    exact pu_zret hx hb hr (by decide) hS d_X_isSeal_28 hlocks ((bI_f (by simp only [sp_isS, Bool.and_eq_false_iff, decide_eq_false_iff_not]; omega)).symm)
  · skip
    rw [lg_cmp_lt] at hc3
    rw [lx_lt (x := x) (n := 1) (by omega)] at hc3
    refine lv_lload_n hx hb d_X_isSeal_6 rfl (lv_at hl 1 rfl) ?_
    refine lv_aload_n hx hb d_X_isSeal_7 rfl (lv_at hl 0 rfl) ?_
    refine va_get (D := (dC, dI)) (ci := 0) (v := .long (lN (p * q * (p * q)))) (C := R_X) (T := F_X) (N := 13) hx hb hts f_X hown hK hP 0 rfl rfl 3 (by decide) (hts _ (al_m aw_t16)) (fun _ h9 => h9) rfl d_X_isSeal_8 ?_
    refine W.lcmp hx hb d_X_isSeal_11 ?_
    refine lv_if_ge (tgt := 27) hx hb d_X_isSeal_12 (by decide) (fun hc12 => ?_) (fun hc12 => ?_)
    · skip
      rw [lg_cmp_ge] at hc12
      rw [lx_le (x := x) (n := p * q * (p * q)) (by omega)] at hc12
      refine lv_iconst (v := nI 0) hx hb d_X_isSeal_27 (by decide) ?_
      exact pu_zret hx hb hr (by decide) hS d_X_isSeal_28 hlocks ((bI_f (by simp only [sp_isS, Bool.and_eq_false_iff, decide_eq_false_iff_not]; omega)).symm)
    · skip
      rw [lg_cmp_ge] at hc12
      rw [lx_le (x := x) (n := p * q * (p * q)) (by omega)] at hc12
      obtain ⟨k, hkk, rfl⟩ := lx_of (x := x) (by omega)
      rw [pk_lT hkk] at hc3 hc12
      refine lv_aload_n hx hb d_X_isSeal_15 rfl (lv_at hl 0 rfl) ?_
      refine lv_lload_n hx hb d_X_isSeal_16 rfl (lv_at hl 1 rfl) ?_
      refine pu_i (va_runV (As := [.long (lN k)]) (rest := []) ⟨hx, hb, hml, hown, hts⟩ (c_X_sharesNoFactor l dC dI h0 q0 cA p q cx rd cl tt bc g k hk hkk) (cwV 1 hts (al_V (k_X_sharesNoFactor) (aw_t88) (aw_t90) (aw_p3) (aw_t1)) rfl rfl rfl (by decide +kernel) ⟨Nat.le_of_ble_eq_true rfl, Nat.le_of_ble_eq_true rfl⟩) (pu_preV (q0 := 0) (ci := 0) hK hP rfl rfl) rfl rfl hl.1 rfl (lv_room (Nat.le_of_ble_eq_true rfl)) d_X_isSeal_17 ⟨Nat.zero_le _, Nat.zero_le _⟩) hS (fun H locs hkp hS => ?_)
      have hP := hkp _ _ _ hP
      refine lv_if_eq (tgt := 27) hx hb d_X_isSeal_20 (by decide) (fun hc20 => ?_) (fun hc20 => ?_)
      · skip
        rw [bI_0] at hc20
        refine lv_iconst (v := nI 0) hx hb d_X_isSeal_27 (by decide) ?_
        exact pu_zret hx hb hr (by decide) hS d_X_isSeal_28 hlocks ((bI_f (by simp only [sp_isS, lx_nat hkk, pk_lT hkk, Int.toNat_natCast, hc20, Bool.and_false])).symm)
      · skip
        rw [bI_0] at hc20
        rw [Bool.not_eq_false] at hc20
        refine lv_iconst (v := nI 1) hx hb d_X_isSeal_23 (by decide) ?_
        refine lv_goto (tgt := 28) hx hb d_X_isSeal_24 (by decide) ?_
        exact pu_zret hx hb hr (by decide) hS d_X_isSeal_28 hlocks ((bI_t (by simp only [sp_isS, lx_nat hkk, pk_lT hkk, Int.toNat_natCast, hc20, Bool.and_eq_true, decide_eq_true_eq, and_true]; omega)).symm)

section
variable {pg : Program} {l : Launch} {ev : Env} {R : Room} {s : State} {mi : MethodId} {args : Array Value} {below : List Frame} {meth : Method} {co : Code} {H : Heap} {locs : List Loc} {cells slots : Nat} {Q : State → Prop}
set_option maxHeartbeats 4000000 in
set_option maxRecDepth 100000 in
theorem lp_X_radixPower_5 {h0 q0 : Nat} {cA : ClassId} {p q cx rd cl tt bc : Nat} {g : Nat → Nat} (hx : pg.tables.exec = Jvm.exec) (hb : co.code = b_X_radixPower) {w0 : Cond} {dC : Nat → ClassId} {dI : Nat → Nat → Nat} (hts : ∀ w ∈ w0 :: al_w, w.before args s = true) (hown : s.vm.findClass R_X = some mi.cls) (hK : va_K (dC, dI) classes [(cA, .long)] s) (hP : va_P (dC, dI) classes [(h0, .inr (0, [.int (nI p), .int (nI q), .int (nI (p * q)), .long (lN (p * q * (p * q))), .long (lN (sp_f p q)), .long (lN (sp_inv p q)), .long (lN (sp_cex p q)), .int (nI cx), .int (nI rd), .int (nI cl), .long (lN tt), .int (nI bc), .ref q0])), (q0, .inl (cA, 30, .inr (.inl (fun j => lN (g j)))))] H) {k : Nat} (hrd : rd < 2 ^ 31) (hkk : k < 2 ^ 31) (k25 : ∀ (i : Nat) (ls : Array Slot), lv_has ls 5 [(4, .int (nI i)), (0, .ref h0), (1, .int (nI k)), (2, .long (lN (rd ^ i)))] → (i = k) → W pg l ev R s mi args below meth co H locs cells slots Q (F0 mi 25 ls [])) : ∀ (mz : Nat) (i : Nat) (ls : Array Slot), lv_has ls 5 [(4, .int (nI i)), (0, .ref h0), (1, .int (nI k)), (2, .long (lN (rd ^ i)))] → (i ≤ k) → k - i = mz → W pg l ev R s mi args below meth co H locs cells slots Q (F0 mi 5 ls []) := by
  intro mz
  induction mz using Nat.strongRecOn with
  | ind mz ih =>
    intro i ls hl h1 hk
    subst hk
    refine lv_iload hx hb d_X_radixPower_5 (lv_at hl 0 rfl) ?_
    refine lv_iload_n hx hb d_X_radixPower_7 rfl (lv_at hl 2 rfl) ?_
    refine lv_icmp_ge (tgt := 25) hx hb d_X_radixPower_8 (by decide) (fun hc8 => ?_) (fun hc8 => ?_)
    · skip
      rw [nI_leI (a := k) (b := i) (by omega) (by omega)] at hc8
      exact k25 i ls (lv_sub hl [0, 1, 2, 3] rfl) (by omega)
    · skip
      rw [nI_leI (a := k) (b := i) (by omega) (by omega)] at hc8
      refine lv_lload_n hx hb d_X_radixPower_11 rfl (lv_at hl 3 rfl) ?_
      refine lv_aload_n hx hb d_X_radixPower_12 rfl (lv_at hl 1 rfl) ?_
      refine va_get (D := (dC, dI)) (ci := 0) (v := .int (nI rd)) (C := R_X) (T := F_X) (N := 13) hx hb hts f_X hown hK hP 0 rfl rfl 8 (by decide) (hts _ (al_m aw_t21)) (fun _ h9 => h9) rfl d_X_radixPower_13 ?_
      refine lv_i2l (v := lN rd) hx hb d_X_radixPower_16 (nI_l (by omega)) ?_
      refine lv_lmul hx hb d_X_radixPower_17 ?_
      refine wk_l (y := lN (rd ^ (i + 1))) (by rw [lN_mul, Nat.pow_succ]) ?_
      refine lv_lstore_n (lv' := [(2, .long (lN (rd ^ (i + 1)))), (4, .int (nI i)), (0, .ref h0), (1, .int (nI k))]) hx hb d_X_radixPower_18 rfl hl (by decide) rfl (fun ls hl => ?_)
      refine lv_iinc (k := 1) (v := nI (i + 1)) (lv' := [(4, .int (nI (i + 1))), (2, .long (lN (rd ^ (i + 1)))), (0, .ref h0), (1, .int (nI k))]) hx hb d_X_radixPower_19 hl rfl (ii_1 i) (by decide) rfl (fun ls hl => ?_)
      refine lv_goto (tgt := 5) hx hb d_X_radixPower_22 (by decide) ?_
      exact ih _ (by omega) (i + 1) ls (lv_sub hl [0, 2, 3, 1] rfl) (by omega) rfl
end

set_option maxHeartbeats 4000000 in
set_option maxRecDepth 100000 in
theorem c_X_radixPower (l : Launch) (dC : Nat → ClassId) (dI : Nat → Nat → Nat) (h0 q0 : Nat) (cA : ClassId) (p q cx rd cl tt bc : Nat) (g : Nat → Nat) (k : Nat) (hrd : rd < 2 ^ 31) (hkk : k < 2 ^ 31) : Met l y_X_radixPower w_X_radixPower ({ frames := 0, cells := 0, slots := 0, locals := 0 }) (va_Pc [.ref h0, .int (nI k)] (fun U => va_P (dC, dI) classes [(h0, .inr (0, [.int (nI p), .int (nI q), .int (nI (p * q)), .long (lN (p * q * (p * q))), .long (lN (sp_f p q)), .long (lN (sp_inv p q)), .long (lN (sp_cex p q)), .int (nI cx), .int (nI rd), .int (nI cl), .long (lN tt), .int (nI bc), .ref q0])), (q0, .inl (cA, 30, .inr (.inl (fun j => lN (g j)))))] U.heap ∧ va_K (dC, dI) classes [(cA, .long)] U)) (qL (lN (rd ^ k))) 0 0 (fun _ => False) := by
  refine Met.ofW (cc := b_X_radixPower) (maxL := 5) (ret := some .long) (by decide) rfl ?_
  intro pg ev s mi args below meth co s₁ B hml hv
  obtain ⟨rfl, hP, hK⟩ := hv
  have hx := B.exec
  have hb := B.bytes
  have hr := B.returns
  have hts := atoms_spec (ws := w_X_radixPower) B.pre
  have hown : s.vm.findClass R_X = some mi.cls := findClass_of_methodNamed B.named
  have hlocks := B.notSynchronized
  have hS : va_S (fun _ => False) s.heap s.heap [] := va_S.rf
  have hP : va_P (dC, dI) classes [(h0, .inr (0, [.int (nI p), .int (nI q), .int (nI (p * q)), .long (lN (p * q * (p * q))), .long (lN (sp_f p q)), .long (lN (sp_inv p q)), .long (lN (sp_cex p q)), .int (nI cx), .int (nI rd), .int (nI cl), .long (lN tt), .int (nI bc), .ref q0])), (q0, .inl (cA, 30, .inr (.inl (fun j => lN (g j)))))] s.heap := hP
  have hl := lv_entry ([.ref h0, .int (nI k)]) (n := 5) (Nat.le_of_ble_eq_true rfl)
  rw [lg_entry_eq]
  generalize (lg_sl ([.ref h0, .int (nI k)]) ++ List.replicate (5 - (lg_sl ([.ref h0, .int (nI k)])).length) Slot.unset).toArray = ls at hl ⊢
  have hl : lv_has ls 5 [(0, .ref h0), (1, .int (nI k))] := hl
  refine lv_lconst (v := lN 1) hx hb d_X_radixPower_0 rfl ?_
  refine lv_lstore_n (lv' := [(2, .long (lN 1)), (0, .ref h0), (1, .int (nI k))]) hx hb d_X_radixPower_1 rfl hl (by decide) rfl (fun ls hl => ?_)
  refine lv_iconst (v := nI 0) hx hb d_X_radixPower_2 (by decide) ?_
  refine lv_istore (lv' := [(4, .int (nI 0)), (2, .long (lN 1)), (0, .ref h0), (1, .int (nI k))]) hx hb d_X_radixPower_3 hl (by decide) rfl (fun ls hl => ?_)
  refine lp_X_radixPower_5 hx hb hts hown hK hP hrd hkk (fun i ls hl hq => ?_) _ 0 ls (lv_sub hl [0, 2, 3, 1] rfl) (by omega) rfl
  refine lv_lload_n hx hb d_X_radixPower_25 rfl (lv_at hl 3 rfl) ?_
  exact pu_lret hx hb hr hS d_X_radixPower_26 hlocks (by rw [hq])

section
variable {pg : Program} {l : Launch} {ev : Env} {R : Room} {s : State} {mi : MethodId} {args : Array Value} {below : List Frame} {meth : Method} {co : Code} {H : Heap} {locs : List Loc} {cells slots : Nat} {Q : State → Prop}
set_option maxHeartbeats 4000000 in
set_option maxRecDepth 100000 in
theorem lp_X_isBoxSize_23 {h0 q0 : Nat} {cA : ClassId} {p q cx rd cl tt bc : Nat} {g : Nat → Nat} (hx : pg.tables.exec = Jvm.exec) (hb : co.code = b_X_isBoxSize) {w0 : Cond} {dC : Nat → ClassId} {dI : Nat → Nat → Nat} (hts : ∀ w ∈ w0 :: al_w, w.before args s = true) (hown : s.vm.findClass R_X = some mi.cls) (hK : va_K (dC, dI) classes [(cA, .long)] s) (hP : va_P (dC, dI) classes [(h0, .inr (0, [.int (nI p), .int (nI q), .int (nI (p * q)), .long (lN (p * q * (p * q))), .long (lN (sp_f p q)), .long (lN (sp_inv p q)), .long (lN (sp_cex p q)), .int (nI cx), .int (nI rd), .int (nI cl), .long (lN tt), .int (nI bc), .ref q0])), (q0, .inl (cA, 30, .inr (.inl (fun j => lN (g j)))))] H) {ka kb : Nat} (hn : p * q ≤ 52441) (hka : ka ≤ 6) (hkb : 2 ≤ kb) (hkb2 : kb < 2 ^ 31) (k52 : ∀ (i : Nat) (ls : Array Slot), lv_has ls 6 [(5, .int (nI i)), (0, .ref h0), (1, .int (nI ka)), (2, .int (nI kb)), (3, .long (lN (kb ^ i)))] → (kb ^ ka ≤ p * q) → W pg l ev R s mi args below meth co H locs cells slots Q (F0 mi 52 ls [])) (k44 : ∀ (i : Nat) (ls : Array Slot), lv_has ls 6 [(5, .int (nI i)), (0, .ref h0), (1, .int (nI ka)), (2, .int (nI kb))] → (p * q < kb ^ ka) → W pg l ev R s mi args below meth co H locs cells slots Q (F0 mi 44 ls [])) : ∀ (mz : Nat) (i : Nat) (ls : Array Slot), lv_has ls 6 [(5, .int (nI i)), (0, .ref h0), (1, .int (nI ka)), (2, .int (nI kb)), (3, .long (lN (kb ^ i)))] → (i ≤ ka) → (kb ^ i ≤ p * q) → ka - i = mz → W pg l ev R s mi args below meth co H locs cells slots Q (F0 mi 23 ls []) := by
  intro mz
  induction mz using Nat.strongRecOn with
  | ind mz ih =>
    intro i ls hl h1 h2 hk
    subst hk
    refine lv_iload hx hb d_X_isBoxSize_23 (lv_at hl 0 rfl) ?_
    refine lv_iload_n hx hb d_X_isBoxSize_25 rfl (lv_at hl 2 rfl) ?_
    refine lv_icmp_ge (tgt := 52) hx hb d_X_isBoxSize_26 (by decide) (fun hc26 => ?_) (fun hc26 => ?_)
    · skip
      rw [nI_leI (a := ka) (b := i) (by omega) (by omega)] at hc26
      exact k52 i ls (lv_sub hl [0, 1, 2, 3, 4] rfl) (by have e : i = ka := (by omega); rw [← e]; exact h2)
    · skip
      rw [nI_leI (a := ka) (b := i) (by omega) (by omega)] at hc26
      refine lv_lload_n hx hb d_X_isBoxSize_29 rfl (lv_at hl 4 rfl) ?_
      refine lv_iload_n hx hb d_X_isBoxSize_30 rfl (lv_at hl 3 rfl) ?_
      refine lv_i2l (v := lN kb) hx hb d_X_isBoxSize_31 (nI_l (by omega)) ?_
      refine lv_lmul hx hb d_X_isBoxSize_32 ?_
      refine wk_l (y := lN (kb ^ (i + 1))) (by rw [lN_mul, Nat.pow_succ]) ?_
      refine lv_lstore_n (lv' := [(3, .long (lN (kb ^ (i + 1)))), (5, .int (nI i)), (0, .ref h0), (1, .int (nI ka)), (2, .int (nI kb))]) hx hb d_X_isBoxSize_33 rfl hl (by decide) rfl (fun ls hl => ?_)
      refine lv_lload_n hx hb d_X_isBoxSize_34 rfl (lv_at hl 0 rfl) ?_
      refine lv_aload_n hx hb d_X_isBoxSize_35 rfl (lv_at hl 2 rfl) ?_
      refine va_get (D := (dC, dI)) (ci := 0) (v := .int (nI (p * q))) (C := R_X) (T := F_X) (N := 13) hx hb hts f_X hown hK hP 0 rfl rfl 2 (by decide) (hts _ (al_m aw_t15)) (fun _ h9 => h9) rfl d_X_isBoxSize_36 ?_
      refine lv_i2l (v := lN (p * q)) hx hb d_X_isBoxSize_39 (nI_l (by omega)) ?_
      have hlt : kb ^ (i + 1) < 2 ^ 63 := bx_lt h2 hn hkb2
      refine W.lcmp hx hb d_X_isBoxSize_40 ?_
      refine lv_if_le (tgt := 46) hx hb d_X_isBoxSize_41 (by decide) (fun hc41 => ?_) (fun hc41 => ?_)
      · skip
        rw [lg_cmp_le] at hc41
        rw [pk_lLE (a := kb ^ (i + 1)) (b := p * q) (by omega) (by omega)] at hc41
        refine lv_iinc (k := 1) (v := nI (i + 1)) (lv' := [(5, .int (nI (i + 1))), (3, .long (lN (kb ^ (i + 1)))), (0, .ref h0), (1, .int (nI ka)), (2, .int (nI kb))]) hx hb d_X_isBoxSize_46 hl rfl (ii_1 i) (by decide) rfl (fun ls hl => ?_)
        refine lv_goto (tgt := 23) hx hb d_X_isBoxSize_49 (by decide) ?_
        exact ih _ (by omega) (i + 1) ls (lv_sub hl [0, 2, 3, 4, 1] rfl) (by omega) (hc41) rfl
      · skip
        rw [lg_cmp_le] at hc41
        rw [pk_lLE (a := kb ^ (i + 1)) (b := p * q) (by omega) (by omega)] at hc41
        exact k44 i ls (lv_sub hl [1, 2, 3, 4] rfl) (Nat.lt_of_lt_of_le (Nat.lt_of_not_le hc41) (Nat.pow_le_pow_right (by omega) (by omega)))
end

set_option maxHeartbeats 4000000 in
set_option maxRecDepth 100000 in
theorem c_X_isBoxSize (l : Launch) (dC : Nat → ClassId) (dI : Nat → Nat → Nat) (h0 q0 : Nat) (cA : ClassId) (p q cx rd cl tt bc : Nat) (g : Nat → Nat) (x y : Int32) (hn : p * q ≤ 52441) (hnn : 1 ≤ p * q) : Met l y_X_isBoxSize w_X_isBoxSize ({ frames := 0, cells := 0, slots := 0, locals := 0 }) (va_Pc [.ref h0, .int x, .int y] (fun U => va_P (dC, dI) classes [(h0, .inr (0, [.int (nI p), .int (nI q), .int (nI (p * q)), .long (lN (p * q * (p * q))), .long (lN (sp_f p q)), .long (lN (sp_inv p q)), .long (lN (sp_cex p q)), .int (nI cx), .int (nI rd), .int (nI cl), .long (lN tt), .int (nI bc), .ref q0])), (q0, .inl (cA, 30, .inr (.inl (fun j => lN (g j)))))] U.heap ∧ va_K (dC, dI) classes [(cA, .long)] U)) (qI (bI (sp_box p q x y))) 0 0 (fun _ => False) := by
  refine Met.ofW (cc := b_X_isBoxSize) (maxL := 6) (ret := some .boolean) (by decide) rfl ?_
  intro pg ev s mi args below meth co s₁ B hml hv
  obtain ⟨rfl, hP, hK⟩ := hv
  have hx := B.exec
  have hb := B.bytes
  have hr := B.returns
  have hts := atoms_spec (ws := w_X_isBoxSize) B.pre
  have hown : s.vm.findClass R_X = some mi.cls := findClass_of_methodNamed B.named
  have hlocks := B.notSynchronized
  have hS : va_S (fun _ => False) s.heap s.heap [] := va_S.rf
  have hP : va_P (dC, dI) classes [(h0, .inr (0, [.int (nI p), .int (nI q), .int (nI (p * q)), .long (lN (p * q * (p * q))), .long (lN (sp_f p q)), .long (lN (sp_inv p q)), .long (lN (sp_cex p q)), .int (nI cx), .int (nI rd), .int (nI cl), .long (lN tt), .int (nI bc), .ref q0])), (q0, .inl (cA, 30, .inr (.inl (fun j => lN (g j)))))] s.heap := hP
  have hl := lv_entry ([.ref h0, .int x, .int y]) (n := 6) (Nat.le_of_ble_eq_true rfl)
  rw [lg_entry_eq]
  generalize (lg_sl ([.ref h0, .int x, .int y]) ++ List.replicate (6 - (lg_sl ([.ref h0, .int x, .int y])).length) Slot.unset).toArray = ls at hl ⊢
  have hl : lv_has ls 6 [(0, .ref h0), (1, .int x), (2, .int y)] := hl
  refine lv_iload_n hx hb d_X_isBoxSize_0 rfl (lv_at hl 1 rfl) ?_
  refine lv_iconst (v := nI 1) hx hb d_X_isBoxSize_1 (by decide) ?_
  refine lv_icmp_lt (tgt := 16) hx hb d_X_isBoxSize_2 (by decide) (fun hc2 => ?_) (fun hc2 => ?_)
  · skip
    rw [ix_lt (x := x) (n := 1) (by omega)] at hc2
    refine lv_iconst (v := nI 0) hx hb d_X_isBoxSize_16 (by decide) ?_
    exact pu_zret hx hb hr (by decide) hS d_X_isBoxSize_17 hlocks ((bI_f (by simp only [sp_box, Bool.and_eq_false_iff, decide_eq_false_iff_not]; omega)).symm)
  · skip
    rw [ix_lt (x := x) (n := 1) (by omega)] at hc2
    refine lv_iload_n hx hb d_X_isBoxSize_5 rfl (lv_at hl 1 rfl) ?_
    refine lv_bipush (v := nI 6) hx hb d_X_isBoxSize_6 (by decide) ?_
    refine lv_icmp_gt (tgt := 16) hx hb d_X_isBoxSize_8 (by decide) (fun hc8 => ?_) (fun hc8 => ?_)
    · skip
      rw [ix_gt (x := x) (n := 6) (by omega)] at hc8
      refine lv_iconst (v := nI 0) hx hb d_X_isBoxSize_16 (by decide) ?_
      exact pu_zret hx hb hr (by decide) hS d_X_isBoxSize_17 hlocks ((bI_f (by simp only [sp_box, Bool.and_eq_false_iff, decide_eq_false_iff_not]; omega)).symm)
    · skip
      rw [ix_gt (x := x) (n := 6) (by omega)] at hc8
      refine lv_iload_n hx hb d_X_isBoxSize_11 rfl (lv_at hl 2 rfl) ?_
      refine lv_iconst (v := nI 2) hx hb d_X_isBoxSize_12 (by decide) ?_
      refine lv_icmp_ge (tgt := 18) hx hb d_X_isBoxSize_13 (by decide) (fun hc13 => ?_) (fun hc13 => ?_)
      · skip
        rw [ix_le (x := y) (n := 2) (by omega)] at hc13
        obtain ⟨ka, hka, rfl⟩ := ix_of (x := x) (by omega)
        obtain ⟨kb, hkb, rfl⟩ := ix_of (x := y) (by omega)
        rw [nI_toInt hka] at hc2 hc8
        rw [nI_toInt hkb] at hc13
        refine lv_lconst (v := lN 1) hx hb d_X_isBoxSize_18 rfl ?_
        refine lv_lstore_n (lv' := [(3, .long (lN 1)), (0, .ref h0), (1, .int (nI ka)), (2, .int (nI kb))]) hx hb d_X_isBoxSize_19 rfl hl (by decide) rfl (fun ls hl => ?_)
        refine lv_iconst (v := nI 0) hx hb d_X_isBoxSize_20 (by decide) ?_
        refine lv_istore (lv' := [(5, .int (nI 0)), (3, .long (lN 1)), (0, .ref h0), (1, .int (nI ka)), (2, .int (nI kb))]) hx hb d_X_isBoxSize_21 hl (by decide) rfl (fun ls hl => ?_)
        refine lp_X_isBoxSize_23 hx hb hts hown hK hP hn (by omega) (by omega) hkb (fun i ls hl hq => ?_) (fun i ls hl hq => ?_) _ 0 ls (lv_sub hl [0, 2, 3, 4, 1] rfl) (by omega) (by rw [Nat.pow_zero]; omega) rfl
        · skip
          refine lv_iconst (v := nI 1) hx hb d_X_isBoxSize_52 (by decide) ?_
          exact pu_zret hx hb hr (by decide) hS d_X_isBoxSize_53 hlocks ((bI_t (by simp only [sp_box, ix_nat hka, ix_nat hkb, nI_toInt hka, nI_toInt hkb, Int.toNat_natCast, Bool.and_eq_true, decide_eq_true_eq]; omega)).symm)
        · skip
          refine lv_iconst (v := nI 0) hx hb d_X_isBoxSize_44 (by decide) ?_
          exact pu_zret hx hb hr (by decide) hS d_X_isBoxSize_45 hlocks ((bI_f (by simp only [sp_box, ix_nat hka, ix_nat hkb, nI_toInt hka, nI_toInt hkb, Int.toNat_natCast, Bool.and_eq_false_iff, decide_eq_false_iff_not]; omega)).symm)
      · skip
        rw [ix_le (x := y) (n := 2) (by omega)] at hc13
        refine lv_iconst (v := nI 0) hx hb d_X_isBoxSize_16 (by decide) ?_
        exact pu_zret hx hb hr (by decide) hS d_X_isBoxSize_17 hlocks ((bI_f (by simp only [sp_box, Bool.and_eq_false_iff, decide_eq_false_iff_not]; omega)).symm)

set_option maxHeartbeats 4000000 in
set_option maxRecDepth 100000 in
theorem c_X_sealing (l : Launch) (dC : Nat → ClassId) (dI : Nat → Nat → Nat) (h0 q0 : Nat) (cA : ClassId) (p q cx rd cl tt bc : Nat) (g : Nat → Nat) (x y : Nat) (hk : ma_K p q) (hxn : x < p * q) (hy : y < p * q * (p * q)) : Met l y_X_sealing w_X_sealing ({ frames := 1, cells := 0, slots := 0, locals := 30 }) (va_Pc [.ref h0, .long (lN x), .long (lN y)] (fun U => va_P (dC, dI) classes [(h0, .inr (0, [.int (nI p), .int (nI q), .int (nI (p * q)), .long (lN (p * q * (p * q))), .long (lN (sp_f p q)), .long (lN (sp_inv p q)), .long (lN (sp_cex p q)), .int (nI cx), .int (nI rd), .int (nI cl), .long (lN tt), .int (nI bc), .ref q0])), (q0, .inl (cA, 30, .inr (.inl (fun j => lN (g j)))))] U.heap ∧ va_K (dC, dI) classes [(cA, .long)] U)) (qL (lN (sp_seal p q x y))) 0 0 (fun _ => False) := by
  refine Met.ofW (cc := b_X_sealing) (maxL := 5) (ret := some .long) (by decide) rfl ?_
  intro pg ev s mi args below meth co s₁ B hml hv
  obtain ⟨rfl, hP, hK⟩ := hv
  have hx := B.exec
  have hb := B.bytes
  have hr := B.returns
  have hts := atoms_spec (ws := w_X_sealing) B.pre
  have hown : s.vm.findClass R_X = some mi.cls := findClass_of_methodNamed B.named
  have hlocks := B.notSynchronized
  have hS : va_S (fun _ => False) s.heap s.heap [] := va_S.rf
  have hP : va_P (dC, dI) classes [(h0, .inr (0, [.int (nI p), .int (nI q), .int (nI (p * q)), .long (lN (p * q * (p * q))), .long (lN (sp_f p q)), .long (lN (sp_inv p q)), .long (lN (sp_cex p q)), .int (nI cx), .int (nI rd), .int (nI cl), .long (lN tt), .int (nI bc), .ref q0])), (q0, .inl (cA, 30, .inr (.inl (fun j => lN (g j)))))] s.heap := hP
  have hl := lv_entry ([.ref h0, .long (lN x), .long (lN y)]) (n := 5) (Nat.le_of_ble_eq_true rfl)
  rw [lg_entry_eq]
  generalize (lg_sl ([.ref h0, .long (lN x), .long (lN y)]) ++ List.replicate (5 - (lg_sl ([.ref h0, .long (lN x), .long (lN y)])).length) Slot.unset).toArray = ls at hl ⊢
  have hl : lv_has ls 5 [(0, .ref h0), (1, .long (lN x)), (3, .long (lN y))] := hl
  have hbg := ma_big hk
  have hp3 := hk.1.1
  have hq3 := hk.2.1.1
  have hp9 := hk.1.2.1
  have hq9 := hk.2.1.2.1
  have hkf := ma_keyf hk
  refine lv_lconst (v := lN 1) hx hb d_X_sealing_0 rfl ?_
  refine lv_lload_n hx hb d_X_sealing_1 rfl (lv_at hl 1 rfl) ?_
  refine lv_aload_n hx hb d_X_sealing_2 rfl (lv_at hl 0 rfl) ?_
  refine va_get (D := (dC, dI)) (ci := 0) (v := .int (nI (p * q))) (C := R_X) (T := F_X) (N := 13) hx hb hts f_X hown hK hP 0 rfl rfl 2 (by decide) (hts _ (al_m aw_t15)) (fun _ h9 => h9) rfl d_X_sealing_3 ?_
  refine lv_i2l (v := lN (p * q)) hx hb d_X_sealing_6 (nI_l (by omega)) ?_
  refine lv_lmul hx hb d_X_sealing_7 ?_
  refine wk_l (y := lN (x * (p * q))) (lN_mul x (p * q)) ?_
  refine lv_ladd hx hb d_X_sealing_8 ?_
  refine wk_l (y := lN (1 + (x * (p * q)))) (lN_add 1 (x * (p * q))) ?_
  refine lv_lload_n hx hb d_X_sealing_9 rfl (lv_at hl 2 rfl) ?_
  refine lv_aload_n hx hb d_X_sealing_10 rfl (lv_at hl 0 rfl) ?_
  refine va_get (D := (dC, dI)) (ci := 0) (v := .int (nI (p * q))) (C := R_X) (T := F_X) (N := 13) hx hb hts f_X hown hK hP 0 rfl rfl 2 (by decide) (hts _ (al_m aw_t15)) (fun _ h9 => h9) rfl d_X_sealing_11 ?_
  refine lv_i2l (v := lN (p * q)) hx hb d_X_sealing_14 (nI_l (by omega)) ?_
  refine lv_aload_n hx hb d_X_sealing_15 rfl (lv_at hl 0 rfl) ?_
  refine va_get (D := (dC, dI)) (ci := 0) (v := .long (lN (p * q * (p * q)))) (C := R_X) (T := F_X) (N := 13) hx hb hts f_X hown hK hP 0 rfl rfl 3 (by decide) (hts _ (al_m aw_t16)) (fun _ h9 => h9) rfl d_X_sealing_16 ?_
  refine pu_l (va_runS (As := [.long (lN y), .long (lN (p * q)), .long (lN (p * q * (p * q)))]) (rest := [.long (lN (1 + (x * (p * q))))]) ⟨hx, hb, hml, hown, hts⟩ (c_X_raised l y (p * q) (p * q * (p * q)) (by omega) (by omega) (by omega) hy) (va_cwS 3 hts (al_S (k_X_raised) (aw_t64) (aw_t65) (aw_t1)) rfl rfl rfl (by decide +kernel) ⟨Nat.le_of_ble_eq_true rfl, Nat.le_of_ble_eq_true rfl⟩) pu_preS rfl rfl hl.1 rfl (lv_room (Nat.le_of_ble_eq_true rfl)) d_X_sealing_19 ⟨Nat.zero_le _, Nat.zero_le _⟩) hS (fun H locs hkp hS => ?_)
  have hP := hkp _ _ _ hP
  refine lv_lmul hx hb d_X_sealing_22 ?_
  refine wk_l (y := lN ((1 + (x * (p * q))) * (y ^ (p * q) % (p * q * (p * q))))) (lN_mul (1 + (x * (p * q))) (y ^ (p * q) % (p * q * (p * q)))) ?_
  refine lv_aload_n hx hb d_X_sealing_23 rfl (lv_at hl 0 rfl) ?_
  refine va_get (D := (dC, dI)) (ci := 0) (v := .long (lN (p * q * (p * q)))) (C := R_X) (T := F_X) (N := 13) hx hb hts f_X hown hK hP 0 rfl rfl 3 (by decide) (hts _ (al_m aw_t16)) (fun _ h9 => h9) rfl d_X_sealing_24 ?_
  refine lv_lrem hx hb d_X_sealing_27 (lN_ne0 (by omega) (by omega)) ?_
  refine wk_l (y := lN (sp_seal p q x y)) (pk_lRem (rs_lt (sl_lt hxn (by omega)) (Nat.mod_lt _ (by omega)) (by omega)) (by omega) (by omega)) ?_
  exact pu_lret hx hb hr hS d_X_sealing_28 hlocks (rfl)

set_option maxHeartbeats 4000000 in
set_option maxRecDepth 100000 in
theorem c_X_messageIn (l : Launch) (dC : Nat → ClassId) (dI : Nat → Nat → Nat) (h0 q0 : Nat) (cA : ClassId) (p q cx rd cl tt bc : Nat) (g : Nat → Nat) (x : Nat) (hk : ma_K p q) (hxn : x < p * q * (p * q)) (hx1 : x % p ≠ 0) (hx2 : x % q ≠ 0) : Met l y_X_messageIn w_X_messageIn ({ frames := 1, cells := 0, slots := 0, locals := 30 }) (va_Pc [.ref h0, .long (lN x)] (fun U => va_P (dC, dI) classes [(h0, .inr (0, [.int (nI p), .int (nI q), .int (nI (p * q)), .long (lN (p * q * (p * q))), .long (lN (sp_f p q)), .long (lN (sp_inv p q)), .long (lN (sp_cex p q)), .int (nI cx), .int (nI rd), .int (nI cl), .long (lN tt), .int (nI bc), .ref q0])), (q0, .inl (cA, 30, .inr (.inl (fun j => lN (g j)))))] U.heap ∧ va_K (dC, dI) classes [(cA, .long)] U)) (qL (lN (sp_msg p q x))) 0 0 (fun _ => False) := by
  refine Met.ofW (cc := b_X_messageIn) (maxL := 5) (ret := some .long) (by decide) rfl ?_
  intro pg ev s mi args below meth co s₁ B hml hv
  obtain ⟨rfl, hP, hK⟩ := hv
  have hx := B.exec
  have hb := B.bytes
  have hr := B.returns
  have hts := atoms_spec (ws := w_X_messageIn) B.pre
  have hown : s.vm.findClass R_X = some mi.cls := findClass_of_methodNamed B.named
  have hlocks := B.notSynchronized
  have hS : va_S (fun _ => False) s.heap s.heap [] := va_S.rf
  have hP : va_P (dC, dI) classes [(h0, .inr (0, [.int (nI p), .int (nI q), .int (nI (p * q)), .long (lN (p * q * (p * q))), .long (lN (sp_f p q)), .long (lN (sp_inv p q)), .long (lN (sp_cex p q)), .int (nI cx), .int (nI rd), .int (nI cl), .long (lN tt), .int (nI bc), .ref q0])), (q0, .inl (cA, 30, .inr (.inl (fun j => lN (g j)))))] s.heap := hP
  have hl := lv_entry ([.ref h0, .long (lN x)]) (n := 5) (Nat.le_of_ble_eq_true rfl)
  rw [lg_entry_eq]
  generalize (lg_sl ([.ref h0, .long (lN x)]) ++ List.replicate (5 - (lg_sl ([.ref h0, .long (lN x)])).length) Slot.unset).toArray = ls at hl ⊢
  have hl : lv_has ls 5 [(0, .ref h0), (1, .long (lN x))] := hl
  have hbg := ma_big hk
  have hp3 := hk.1.1
  have hq3 := hk.2.1.1
  have hp9 := hk.1.2.1
  have hq9 := hk.2.1.2.1
  have hkf := ma_keyf hk
  refine lv_lload_n hx hb d_X_messageIn_0 rfl (lv_at hl 1 rfl) ?_
  refine lv_aload_n hx hb d_X_messageIn_1 rfl (lv_at hl 0 rfl) ?_
  refine va_get (D := (dC, dI)) (ci := 0) (v := .long (lN (sp_f p q))) (C := R_X) (T := F_X) (N := 13) hx hb hts f_X hown hK hP 0 rfl rfl 4 (by decide) (hts _ (al_m aw_t17)) (fun _ h9 => h9) rfl d_X_messageIn_2 ?_
  refine lv_aload_n hx hb d_X_messageIn_5 rfl (lv_at hl 0 rfl) ?_
  refine va_get (D := (dC, dI)) (ci := 0) (v := .long (lN (p * q * (p * q)))) (C := R_X) (T := F_X) (N := 13) hx hb hts f_X hown hK hP 0 rfl rfl 3 (by decide) (hts _ (al_m aw_t16)) (fun _ h9 => h9) rfl d_X_messageIn_6 ?_
  refine pu_l (va_runS (As := [.long (lN x), .long (lN (sp_f p q)), .long (lN (p * q * (p * q)))]) (rest := []) ⟨hx, hb, hml, hown, hts⟩ (c_X_raised l x (sp_f p q) (p * q * (p * q)) (by omega) (by omega) (by omega) hxn) (va_cwS 3 hts (al_S (k_X_raised) (aw_t64) (aw_t65) (aw_t1)) rfl rfl rfl (by decide +kernel) ⟨Nat.le_of_ble_eq_true rfl, Nat.le_of_ble_eq_true rfl⟩) pu_preS rfl rfl hl.1 rfl (lv_room (Nat.le_of_ble_eq_true rfl)) d_X_messageIn_9 ⟨Nat.zero_le _, Nat.zero_le _⟩) hS (fun H locs hkp hS => ?_)
  have hP := hkp _ _ _ hP
  have hop := (fa_msg hk hx1 hx2 hkf.2.2.1).2.1
  have hol : x ^ sp_f p q % (p * q * (p * q)) < p * q * (p * q) := Nat.mod_lt _ (by omega)
  refine lv_lstore_n (lv' := [(3, .long (lN (x ^ sp_f p q % (p * q * (p * q))))), (0, .ref h0), (1, .long (lN x))]) hx hb d_X_messageIn_12 rfl hl (by decide) rfl (fun ls hl => ?_)
  refine lv_lload_n hx hb d_X_messageIn_13 rfl (lv_at hl 0 rfl) ?_
  refine lv_lconst (v := lN 1) hx hb d_X_messageIn_14 rfl ?_
  refine lv_lsub hx hb d_X_messageIn_15 ?_
  refine wk_l (y := lN ((x ^ sp_f p q % (p * q * (p * q))) - 1)) (lN_sub (by omega)) ?_
  refine lv_aload_n hx hb d_X_messageIn_16 rfl (lv_at hl 1 rfl) ?_
  refine va_get (D := (dC, dI)) (ci := 0) (v := .int (nI (p * q))) (C := R_X) (T := F_X) (N := 13) hx hb hts f_X hown hK hP 0 rfl rfl 2 (by decide) (hts _ (al_m aw_t15)) (fun _ h9 => h9) rfl d_X_messageIn_17 ?_
  refine lv_i2l (v := lN (p * q)) hx hb d_X_messageIn_20 (nI_l (by omega)) ?_
  refine lv_ldiv hx hb d_X_messageIn_21 (lN_ne0 (by omega) (by omega)) ?_
  refine wk_l (y := lN (((x ^ sp_f p q % (p * q * (p * q))) - 1) / (p * q))) (pk_lDiv (by omega) (by omega) (by omega)) ?_
  have hm21 := Nat.div_le_self ((x ^ sp_f p q % (p * q * (p * q))) - 1) (p * q)
  refine lv_aload_n hx hb d_X_messageIn_22 rfl (lv_at hl 1 rfl) ?_
  refine va_get (D := (dC, dI)) (ci := 0) (v := .long (lN (sp_inv p q))) (C := R_X) (T := F_X) (N := 13) hx hb hts f_X hown hK hP 0 rfl rfl 5 (by decide) (hts _ (al_m aw_t18)) (fun _ h9 => h9) rfl d_X_messageIn_23 ?_
  refine lv_lmul hx hb d_X_messageIn_26 ?_
  refine wk_l (y := lN ((((x ^ sp_f p q % (p * q * (p * q))) - 1) / (p * q)) * (sp_inv p q))) (lN_mul (((x ^ sp_f p q % (p * q * (p * q))) - 1) / (p * q)) (sp_inv p q)) ?_
  refine lv_aload_n hx hb d_X_messageIn_27 rfl (lv_at hl 1 rfl) ?_
  refine va_get (D := (dC, dI)) (ci := 0) (v := .int (nI (p * q))) (C := R_X) (T := F_X) (N := 13) hx hb hts f_X hown hK hP 0 rfl rfl 2 (by decide) (hts _ (al_m aw_t15)) (fun _ h9 => h9) rfl d_X_messageIn_28 ?_
  refine lv_i2l (v := lN (p * q)) hx hb d_X_messageIn_31 (nI_l (by omega)) ?_
  refine lv_lrem hx hb d_X_messageIn_32 (lN_ne0 (by omega) (by omega)) ?_
  refine wk_l (y := lN (sp_msg p q x)) (pk_lRem (ms_lt (by omega) (by omega)) (by omega) (by omega)) ?_
  exact pu_lret hx hb hr hS d_X_messageIn_33 hlocks (rfl)

set_option maxHeartbeats 4000000 in
set_option maxRecDepth 100000 in
theorem c_X_coinIn (l : Launch) (dC : Nat → ClassId) (dI : Nat → Nat → Nat) (h0 q0 : Nat) (cA : ClassId) (p q cx rd cl tt bc : Nat) (g : Nat → Nat) (x : Nat) (hk : ma_K p q) (hxn : x < 2 ^ 63) : Met l y_X_coinIn w_X_coinIn ({ frames := 1, cells := 0, slots := 0, locals := 30 }) (va_Pc [.ref h0, .long (lN x)] (fun U => va_P (dC, dI) classes [(h0, .inr (0, [.int (nI p), .int (nI q), .int (nI (p * q)), .long (lN (p * q * (p * q))), .long (lN (sp_f p q)), .long (lN (sp_inv p q)), .long (lN (sp_cex p q)), .int (nI cx), .int (nI rd), .int (nI cl), .long (lN tt), .int (nI bc), .ref q0])), (q0, .inl (cA, 30, .inr (.inl (fun j => lN (g j)))))] U.heap ∧ va_K (dC, dI) classes [(cA, .long)] U)) (qL (lN (sp_coin p q x))) 0 0 (fun _ => False) := by
  refine Met.ofW (cc := b_X_coinIn) (maxL := 3) (ret := some .long) (by decide) rfl ?_
  intro pg ev s mi args below meth co s₁ B hml hv
  obtain ⟨rfl, hP, hK⟩ := hv
  have hx := B.exec
  have hb := B.bytes
  have hr := B.returns
  have hts := atoms_spec (ws := w_X_coinIn) B.pre
  have hown : s.vm.findClass R_X = some mi.cls := findClass_of_methodNamed B.named
  have hlocks := B.notSynchronized
  have hS : va_S (fun _ => False) s.heap s.heap [] := va_S.rf
  have hP : va_P (dC, dI) classes [(h0, .inr (0, [.int (nI p), .int (nI q), .int (nI (p * q)), .long (lN (p * q * (p * q))), .long (lN (sp_f p q)), .long (lN (sp_inv p q)), .long (lN (sp_cex p q)), .int (nI cx), .int (nI rd), .int (nI cl), .long (lN tt), .int (nI bc), .ref q0])), (q0, .inl (cA, 30, .inr (.inl (fun j => lN (g j)))))] s.heap := hP
  have hl := lv_entry ([.ref h0, .long (lN x)]) (n := 3) (Nat.le_of_ble_eq_true rfl)
  rw [lg_entry_eq]
  generalize (lg_sl ([.ref h0, .long (lN x)]) ++ List.replicate (3 - (lg_sl ([.ref h0, .long (lN x)])).length) Slot.unset).toArray = ls at hl ⊢
  have hl : lv_has ls 3 [(0, .ref h0), (1, .long (lN x))] := hl
  have hbg := ma_big hk
  have hp3 := hk.1.1
  have hq3 := hk.2.1.1
  have hp9 := hk.1.2.1
  have hq9 := hk.2.1.2.1
  have hkf := ma_keyf hk
  refine lv_lload_n hx hb d_X_coinIn_0 rfl (lv_at hl 1 rfl) ?_
  refine lv_aload_n hx hb d_X_coinIn_1 rfl (lv_at hl 0 rfl) ?_
  refine va_get (D := (dC, dI)) (ci := 0) (v := .int (nI (p * q))) (C := R_X) (T := F_X) (N := 13) hx hb hts f_X hown hK hP 0 rfl rfl 2 (by decide) (hts _ (al_m aw_t15)) (fun _ h9 => h9) rfl d_X_coinIn_2 ?_
  refine lv_i2l (v := lN (p * q)) hx hb d_X_coinIn_5 (nI_l (by omega)) ?_
  refine lv_lrem hx hb d_X_coinIn_6 (lN_ne0 (by omega) (by omega)) ?_
  refine wk_l (y := lN (x % (p * q))) (pk_lRem (by omega) (by omega) (by omega)) ?_
  have hm6 := Nat.mod_le x (p * q)
  refine lv_aload_n hx hb d_X_coinIn_7 rfl (lv_at hl 0 rfl) ?_
  refine va_get (D := (dC, dI)) (ci := 0) (v := .long (lN (sp_cex p q))) (C := R_X) (T := F_X) (N := 13) hx hb hts f_X hown hK hP 0 rfl rfl 6 (by decide) (hts _ (al_m aw_t19)) (fun _ h9 => h9) rfl d_X_coinIn_8 ?_
  refine lv_aload_n hx hb d_X_coinIn_11 rfl (lv_at hl 0 rfl) ?_
  refine va_get (D := (dC, dI)) (ci := 0) (v := .int (nI (p * q))) (C := R_X) (T := F_X) (N := 13) hx hb hts f_X hown hK hP 0 rfl rfl 2 (by decide) (hts _ (al_m aw_t15)) (fun _ h9 => h9) rfl d_X_coinIn_12 ?_
  refine lv_i2l (v := lN (p * q)) hx hb d_X_coinIn_15 (nI_l (by omega)) ?_
  refine pu_l (va_runS (As := [.long (lN (x % (p * q))), .long (lN (sp_cex p q)), .long (lN (p * q))]) (rest := []) ⟨hx, hb, hml, hown, hts⟩ (c_X_raised l (x % (p * q)) (sp_cex p q) (p * q) (by omega) (by omega) (by omega) (Nat.mod_lt _ (by omega))) (va_cwS 3 hts (al_S (k_X_raised) (aw_t64) (aw_t65) (aw_t1)) rfl rfl rfl (by decide +kernel) ⟨Nat.le_of_ble_eq_true rfl, Nat.le_of_ble_eq_true rfl⟩) pu_preS rfl rfl hl.1 rfl (lv_room (Nat.le_of_ble_eq_true rfl)) d_X_coinIn_16 ⟨Nat.zero_le _, Nat.zero_le _⟩) hS (fun H locs hkp hS => ?_)
  have hP := hkp _ _ _ hP
  exact pu_lret hx hb hr hS d_X_coinIn_19 hlocks (rfl)

section
variable {pg : Program} {l : Launch} {ev : Env} {R : Room} {s : State} {mi : MethodId} {args : Array Value} {below : List Frame} {meth : Method} {co : Code} {H : Heap} {locs : List Loc} {cells slots : Nat} {Q : State → Prop}
set_option maxHeartbeats 4000000 in
set_option maxRecDepth 100000 in
theorem lp_X_productOfBallots_4 {h0 q0 : Nat} {cA : ClassId} {p q cx rd cl tt bc : Nat} {g : Nat → Nat} (hx : pg.tables.exec = Jvm.exec) (hb : co.code = b_X_productOfBallots) {w0 : Cond} {dC : Nat → ClassId} {dI : Nat → Nat → Nat} (hts : ∀ w ∈ w0 :: al_w, w.before args s = true) (hown : s.vm.findClass R_X = some mi.cls) (hK : va_K (dC, dI) classes [(cA, .long)] s) (hP : va_P (dC, dI) classes [(h0, .inr (0, [.int (nI p), .int (nI q), .int (nI (p * q)), .long (lN (p * q * (p * q))), .long (lN (sp_f p q)), .long (lN (sp_inv p q)), .long (lN (sp_cex p q)), .int (nI cx), .int (nI rd), .int (nI cl), .long (lN tt), .int (nI bc), .ref q0])), (q0, .inl (cA, 30, .inr (.inl (fun j => lN (g j)))))] H) (hn : p * q * (p * q) ≤ 2750058481) (hn1 : 1 < p * q * (p * q)) (hg : ∀ j, j < 30 → g j < p * q * (p * q)) (k41 : ∀ (x : Nat) (i : Nat) (ls : Array Slot), lv_has ls 4 [(1, .long (lN x)), (3, .int (nI i)), (0, .ref h0)] → (x = sp_prod g 30 % (p * q * (p * q))) → W pg l ev R s mi args below meth co H locs cells slots Q (F0 mi 41 ls [])) : ∀ (mz : Nat) (x : Nat) (i : Nat) (ls : Array Slot), lv_has ls 4 [(1, .long (lN x)), (3, .int (nI i)), (0, .ref h0)] → (i ≤ 30) → (x < p * q * (p * q)) → (x = sp_prod g i % (p * q * (p * q))) → 30 - i = mz → W pg l ev R s mi args below meth co H locs cells slots Q (F0 mi 4 ls []) := by
  intro mz
  induction mz using Nat.strongRecOn with
  | ind mz ih =>
    intro x i ls hl h1 h2 h3 hk
    subst hk
    refine lv_iload_n hx hb d_X_productOfBallots_4 rfl (lv_at hl 1 rfl) ?_
    refine lv_bipush (v := nI 30) hx hb d_X_productOfBallots_5 (by decide) ?_
    refine lv_icmp_ge (tgt := 41) hx hb d_X_productOfBallots_7 (by decide) (fun hc7 => ?_) (fun hc7 => ?_)
    · skip
      rw [nI_leI (a := 30) (b := i) (by omega) (by omega)] at hc7
      exact k41 x i ls (lv_sub hl [0, 1, 2] rfl) (by have e : i = 30 := (by omega); rw [← e]; exact h3)
    · skip
      rw [nI_leI (a := 30) (b := i) (by omega) (by omega)] at hc7
      refine lv_aload_n hx hb d_X_productOfBallots_10 rfl (lv_at hl 2 rfl) ?_
      refine va_get (D := (dC, dI)) (ci := 0) (v := .ref q0) (C := R_X) (T := F_X) (N := 13) hx hb hts f_X hown hK hP 0 rfl rfl 12 (by decide) (hts _ (al_m aw_t25)) (fun _ h9 => h9) rfl d_X_productOfBallots_11 ?_
      refine lv_iload_n hx hb d_X_productOfBallots_14 rfl (lv_at hl 1 rfl) ?_
      refine va_lald hx hb hK hP 1 0 rfl rfl (vp_in_nI (by omega) (by decide)) d_X_productOfBallots_15 ?_
      refine wk_l (y := lN (g i)) (by rw [nI_clamp (by omega)]) ?_
      refine lv_lconst (v := lN 0) hx hb d_X_productOfBallots_16 rfl ?_
      have hgi := hg i (by omega)
      refine W.lcmp hx hb d_X_productOfBallots_17 ?_
      refine lv_if_eq (tgt := 35) hx hb d_X_productOfBallots_18 (by decide) (fun hc18 => ?_) (fun hc18 => ?_)
      · skip
        rw [lg_cmp_eq] at hc18
        rw [pk_lEQ (a := g i) (b := 0) (by omega) (by omega)] at hc18
        refine lv_iinc (k := 1) (v := nI (i + 1)) (lv' := [(3, .int (nI (i + 1))), (1, .long (lN x)), (0, .ref h0)]) hx hb d_X_productOfBallots_35 hl rfl (ii_1 i) (by decide) rfl (fun ls hl => ?_)
        refine lv_goto (tgt := 4) hx hb d_X_productOfBallots_38 (by decide) ?_
        exact ih _ (by omega) x (i + 1) ls (lv_sub hl [1, 0, 2] rfl) (by omega) (by first | exact h2 | exact Nat.mod_lt _ (by omega)) (by first | (rw [h3, Nat.mod_mul_mod]; simp only [sp_prod, if_neg hc18]; done) | (rw [h3]; simp only [sp_prod, if_pos hc18, Nat.mul_one]; done)) rfl
      · skip
        rw [lg_cmp_eq] at hc18
        rw [pk_lEQ (a := g i) (b := 0) (by omega) (by omega)] at hc18
        refine lv_lload_n hx hb d_X_productOfBallots_21 rfl (lv_at hl 0 rfl) ?_
        refine lv_aload_n hx hb d_X_productOfBallots_22 rfl (lv_at hl 2 rfl) ?_
        refine va_get (D := (dC, dI)) (ci := 0) (v := .ref q0) (C := R_X) (T := F_X) (N := 13) hx hb hts f_X hown hK hP 0 rfl rfl 12 (by decide) (hts _ (al_m aw_t25)) (fun _ h9 => h9) rfl d_X_productOfBallots_23 ?_
        refine lv_iload_n hx hb d_X_productOfBallots_26 rfl (lv_at hl 1 rfl) ?_
        refine va_lald hx hb hK hP 1 0 rfl rfl (vp_in_nI (by omega) (by decide)) d_X_productOfBallots_27 ?_
        refine wk_l (y := lN (g i)) (by rw [nI_clamp (by omega)]) ?_
        refine lv_lmul hx hb d_X_productOfBallots_28 ?_
        refine wk_l (y := lN (x * (g i))) (lN_mul x (g i)) ?_
        refine lv_aload_n hx hb d_X_productOfBallots_29 rfl (lv_at hl 2 rfl) ?_
        refine va_get (D := (dC, dI)) (ci := 0) (v := .long (lN (p * q * (p * q)))) (C := R_X) (T := F_X) (N := 13) hx hb hts f_X hown hK hP 0 rfl rfl 3 (by decide) (hts _ (al_m aw_t16)) (fun _ h9 => h9) rfl d_X_productOfBallots_30 ?_
        refine lv_lrem hx hb d_X_productOfBallots_33 (lN_ne0 (by omega) (by omega)) ?_
        refine wk_l (y := lN (x * g i % (p * q * (p * q)))) (pk_lRem (rs_lt h2 (hg i (by omega)) hn) (by omega) (by omega)) ?_
        refine lv_lstore_n (lv' := [(1, .long (lN (x * g i % (p * q * (p * q))))), (3, .int (nI i)), (0, .ref h0)]) hx hb d_X_productOfBallots_34 rfl hl (by decide) rfl (fun ls hl => ?_)
        refine lv_iinc (k := 1) (v := nI (i + 1)) (lv' := [(3, .int (nI (i + 1))), (1, .long (lN (x * g i % (p * q * (p * q))))), (0, .ref h0)]) hx hb d_X_productOfBallots_35 hl rfl (ii_1 i) (by decide) rfl (fun ls hl => ?_)
        refine lv_goto (tgt := 4) hx hb d_X_productOfBallots_38 (by decide) ?_
        exact ih _ (by omega) (x * g i % (p * q * (p * q))) (i + 1) ls (lv_sub hl [1, 0, 2] rfl) (by omega) (by first | exact h2 | exact Nat.mod_lt _ (by omega)) (by first | (rw [h3, Nat.mod_mul_mod]; simp only [sp_prod, if_neg hc18]; done) | (rw [h3]; simp only [sp_prod, if_pos hc18, Nat.mul_one]; done)) rfl
end

set_option maxHeartbeats 4000000 in
set_option maxRecDepth 100000 in
theorem c_X_productOfBallots (l : Launch) (dC : Nat → ClassId) (dI : Nat → Nat → Nat) (h0 q0 : Nat) (cA : ClassId) (p q cx rd cl tt bc : Nat) (g : Nat → Nat) (hk : ma_K p q) (hg : ∀ j, j < 30 → g j < p * q * (p * q)) : Met l y_X_productOfBallots w_X_productOfBallots ({ frames := 0, cells := 0, slots := 0, locals := 0 }) (va_Pc [.ref h0] (fun U => va_P (dC, dI) classes [(h0, .inr (0, [.int (nI p), .int (nI q), .int (nI (p * q)), .long (lN (p * q * (p * q))), .long (lN (sp_f p q)), .long (lN (sp_inv p q)), .long (lN (sp_cex p q)), .int (nI cx), .int (nI rd), .int (nI cl), .long (lN tt), .int (nI bc), .ref q0])), (q0, .inl (cA, 30, .inr (.inl (fun j => lN (g j)))))] U.heap ∧ va_K (dC, dI) classes [(cA, .long)] U)) (qL (lN (sp_prod g 30 % (p * q * (p * q))))) 0 0 (fun _ => False) := by
  refine Met.ofW (cc := b_X_productOfBallots) (maxL := 4) (ret := some .long) (by decide) rfl ?_
  intro pg ev s mi args below meth co s₁ B hml hv
  obtain ⟨rfl, hP, hK⟩ := hv
  have hx := B.exec
  have hb := B.bytes
  have hr := B.returns
  have hts := atoms_spec (ws := w_X_productOfBallots) B.pre
  have hown : s.vm.findClass R_X = some mi.cls := findClass_of_methodNamed B.named
  have hlocks := B.notSynchronized
  have hS : va_S (fun _ => False) s.heap s.heap [] := va_S.rf
  have hP : va_P (dC, dI) classes [(h0, .inr (0, [.int (nI p), .int (nI q), .int (nI (p * q)), .long (lN (p * q * (p * q))), .long (lN (sp_f p q)), .long (lN (sp_inv p q)), .long (lN (sp_cex p q)), .int (nI cx), .int (nI rd), .int (nI cl), .long (lN tt), .int (nI bc), .ref q0])), (q0, .inl (cA, 30, .inr (.inl (fun j => lN (g j)))))] s.heap := hP
  have hl := lv_entry ([.ref h0]) (n := 4) (Nat.le_of_ble_eq_true rfl)
  rw [lg_entry_eq]
  generalize (lg_sl ([.ref h0]) ++ List.replicate (4 - (lg_sl ([.ref h0])).length) Slot.unset).toArray = ls at hl ⊢
  have hl : lv_has ls 4 [(0, .ref h0)] := hl
  have hbg := ma_big hk
  have hp3 := hk.1.1
  have hq3 := hk.2.1.1
  have hp9 := hk.1.2.1
  have hq9 := hk.2.1.2.1
  have hkf := ma_keyf hk
  refine lv_lconst (v := lN 1) hx hb d_X_productOfBallots_0 rfl ?_
  refine lv_lstore_n (lv' := [(1, .long (lN 1)), (0, .ref h0)]) hx hb d_X_productOfBallots_1 rfl hl (by decide) rfl (fun ls hl => ?_)
  refine lv_iconst (v := nI 0) hx hb d_X_productOfBallots_2 (by decide) ?_
  refine lv_istore_n (lv' := [(3, .int (nI 0)), (1, .long (lN 1)), (0, .ref h0)]) hx hb d_X_productOfBallots_3 rfl hl (by decide) rfl (fun ls hl => ?_)
  refine lp_X_productOfBallots_4 hx hb hts hown hK hP (by omega) (by omega) hg (fun x i ls hl hq => ?_) _ 1 0 ls (lv_sub hl [1, 0, 2] rfl) (by omega) (by omega) (by show 1 = 1 % (p * q * (p * q)); exact (Nat.mod_eq_of_lt (by omega)).symm) rfl
  refine lv_lload_n hx hb d_X_productOfBallots_41 rfl (lv_at hl 0 rfl) ?_
  exact pu_lret hx hb hr hS d_X_productOfBallots_42 hlocks (congrArg lN hq)
