section
variable {pg : Program} {l : Launch} {ev : Env} {R : Room} {s : State} {mi : MethodId} {args : Array Value} {below : List Frame} {meth : Method} {co : Code} {H : Heap} {locs : List Loc} {cells slots : Nat} {Q : State → Prop}
set_option maxHeartbeats 4000000 in
set_option maxRecDepth 100000 in
theorem lp_M_open_32 {h1 q1 : Nat} {cB : ClassId} {p q bx cl cd rd : Nat} {g : Nat → Nat} (hx : pg.tables.exec = Jvm.exec) (hb : co.code = b_M_open) {w0 : Cond} {dC : Nat → ClassId} {dI : Nat → Nat → Nat} (hts : ∀ w ∈ w0 :: al_w, w.before args s = true) (hown : s.vm.findClass R_M = some mi.cls) (hK : va_K (dC, dI) classes [(cB, .long)] s) (hP : va_P (dC, dI) classes [(h1, .inr (1, [.long (lN (p * q)), .long (lN (p * q * (p * q))), .long (lN (sp_f p q)), .long (lN (sp_cex p q)), .int (nI bx), .int (nI cl), .int (nI cd), .int (nI rd), .ref q1])), (q1, .inl (cB, 30, .inr (.inl (fun j => lN (g j)))))] H) {ka kb : Nat} (hn : p * q ≤ 52441) (hka : ka ≤ 6) (hkb : 2 ≤ kb) (hkb2 : kb < 2 ^ 31) (k62 : ∀ (r : Nat) (i : Nat) (ls : Array Slot), lv_has ls 6 [(3, .long (lN r)), (5, .int (nI i)), (0, .ref h1), (1, .int (nI ka)), (2, .int (nI kb))] → (r ≤ p * q ↔ kb ^ ka ≤ p * q) → (r < 2 ^ 48) → W pg l ev R s mi args below meth co H locs cells slots Q (F0 mi 62 ls [])) : ∀ (mz : Nat) (r : Nat) (i : Nat) (ls : Array Slot), lv_has ls 6 [(3, .long (lN r)), (5, .int (nI i)), (0, .ref h1), (1, .int (nI ka)), (2, .int (nI kb))] → (i ≤ ka) → (r < 2 ^ 48) → (r ≤ p * q → r = kb ^ i) → (p * q < r → p * q < kb ^ i) → ka - i = mz → W pg l ev R s mi args below meth co H locs cells slots Q (F0 mi 32 ls []) := by
  intro mz
  induction mz using Nat.strongRecOn with
  | ind mz ih =>
    intro r i ls hl h1_ h2 h3 h4 hk
    subst hk
    refine lv_iload hx hb d_M_open_32 (lv_at hl 1 rfl) ?_
    refine lv_iload_n hx hb d_M_open_34 rfl (lv_at hl 3 rfl) ?_
    refine lv_icmp_ge (tgt := 62) hx hb d_M_open_35 (by decide) (fun hc35 => ?_) (fun hc35 => ?_)
    · skip
      rw [nI_leI (a := ka) (b := i) (by omega) (by omega)] at hc35
      exact k62 r i ls (lv_sub hl [0, 1, 2, 3, 4] rfl) (ro_x (by omega) h3 h4) (h2)
    · skip
      rw [nI_leI (a := ka) (b := i) (by omega) (by omega)] at hc35
      refine lv_lload_n hx hb d_M_open_38 rfl (lv_at hl 0 rfl) ?_
      refine lv_aload_n hx hb d_M_open_39 rfl (lv_at hl 2 rfl) ?_
      refine va_get (D := (dC, dI)) (ci := 1) (v := .long (lN (p * q))) (C := R_M) (T := F_M) (N := 9) hx hb hts f_M hown hK hP 0 rfl rfl 0 (by decide) (hts _ (al_m aw_t207)) (fun _ h9 => h9) rfl d_M_open_40 ?_
      refine W.lcmp hx hb d_M_open_43 ?_
      refine lv_if_le (tgt := 51) hx hb d_M_open_44 (by decide) (fun hc44 => ?_) (fun hc44 => ?_)
      · skip
        rw [lg_cmp_le] at hc44
        rw [pk_lLE (a := r) (b := p * q) (by omega) (by omega)] at hc44
        refine lv_lload_n hx hb d_M_open_51 rfl (lv_at hl 0 rfl) ?_
        refine lv_iload_n hx hb d_M_open_52 rfl (lv_at hl 4 rfl) ?_
        refine lv_i2l (v := lN kb) hx hb d_M_open_53 (nI_l (by omega)) ?_
        refine lv_lmul hx hb d_M_open_54 ?_
        refine wk_l (y := lN (r * kb)) (lN_mul r kb) ?_
        refine lv_lstore_n (lv' := [(3, .long (lN (r * kb))), (5, .int (nI i)), (0, .ref h1), (1, .int (nI ka)), (2, .int (nI kb))]) hx hb d_M_open_55 rfl hl (by decide) rfl (fun ls hl => ?_)
        refine lv_iinc (k := 1) (v := nI (i + 1)) (lv' := [(5, .int (nI (i + 1))), (3, .long (lN (r * kb))), (0, .ref h1), (1, .int (nI ka)), (2, .int (nI kb))]) hx hb d_M_open_56 hl rfl (ii_1 i) (by decide) rfl (fun ls hl => ?_)
        refine lv_goto (tgt := 32) hx hb d_M_open_59 (by decide) ?_
        exact ih _ (by omega) (r * kb) (i + 1) ls (lv_sub hl [1, 0, 2, 3, 4] rfl) (by omega) (by first | exact h2 | exact ro_b hc44 hn hkb2) (by first | (intro hh; exact absurd hh hc44) | (intro hh; rw [h3 hc44, Nat.pow_succ])) (by first | (intro hh; exact ro_1 hh hkb h4) | (intro hh; rw [h3 hc44, ← Nat.pow_succ] at hh; exact hh)) rfl
      · skip
        rw [lg_cmp_le] at hc44
        rw [pk_lLE (a := r) (b := p * q) (by omega) (by omega)] at hc44
        refine lv_lload_n hx hb d_M_open_47 rfl (lv_at hl 0 rfl) ?_
        refine lv_goto (tgt := 55) hx hb d_M_open_48 (by decide) ?_
        refine lv_lstore_n (lv' := [(3, .long (lN r)), (5, .int (nI i)), (0, .ref h1), (1, .int (nI ka)), (2, .int (nI kb))]) hx hb d_M_open_55 rfl hl (by decide) rfl (fun ls hl => ?_)
        refine lv_iinc (k := 1) (v := nI (i + 1)) (lv' := [(5, .int (nI (i + 1))), (3, .long (lN r)), (0, .ref h1), (1, .int (nI ka)), (2, .int (nI kb))]) hx hb d_M_open_56 hl rfl (ii_1 i) (by decide) rfl (fun ls hl => ?_)
        refine lv_goto (tgt := 32) hx hb d_M_open_59 (by decide) ?_
        exact ih _ (by omega) r (i + 1) ls (lv_sub hl [1, 0, 2, 3, 4] rfl) (by omega) (by first | exact h2 | exact ro_b hc44 hn hkb2) (by first | (intro hh; exact absurd hh hc44) | (intro hh; rw [h3 hc44, Nat.pow_succ])) (by first | (intro hh; exact ro_1 hh hkb h4) | (intro hh; rw [h3 hc44, ← Nat.pow_succ] at hh; exact hh)) rfl
end

section
variable {pg : Program} {l : Launch} {ev : Env} {R : Room} {s : State} {mi : MethodId} {args : Array Value} {below : List Frame} {meth : Method} {co : Code} {H : Heap} {locs : List Loc} {cells slots : Nat} {Q : State → Prop}
set_option maxHeartbeats 4000000 in
set_option maxRecDepth 100000 in
theorem lp_M_open_96 {h1 q1 : Nat} {cB : ClassId} {p q ka kb : Nat} {g : Nat → Nat} {A0 : Nat → Prop} {H0 : Heap} (hx : pg.tables.exec = Jvm.exec) (hb : co.code = b_M_open) {w0 : Cond} {dC : Nat → ClassId} {dI : Nat → Nat → Nat} (hts : ∀ w ∈ w0 :: al_w, w.before args s = true) (hown : s.vm.findClass R_M = some mi.cls) (hK : va_K (dC, dI) classes [(cB, .long)] s)  (k117 : ∀ (i : Nat) (H : Heap) (locs : List Loc) (ls : Array Slot), lv_has ls 6 [(5, .int (nI i)), (0, .ref h1)] → va_P (dC, dI) classes [(h1, .inr (1, [.long (lN (p * q)), .long (lN (p * q * (p * q))), .long (lN (sp_f p q)), .long (lN (sp_cex p q)), .int (nI 1), .int (nI 0), .int (nI ka), .int (nI kb), .ref q1])), (q1, .inl (cB, 30, .inr (.inl (fun j => lN ((fz g i) j)))))] H → va_D A0 [(h1, .inr (1, [.long (lN (p * q)), .long (lN (p * q * (p * q))), .long (lN (sp_f p q)), .long (lN (sp_cex p q)), .int (nI 1), .int (nI 0), .int (nI ka), .int (nI kb), .ref q1])), (q1, .inl (cB, 30, .inr (.inl (fun j => lN ((fz g i) j)))))] → va_S A0 H0 H locs → (i = 30) → W pg l ev R s mi args below meth co H locs cells slots Q (F0 mi 117 ls [])) : ∀ (mz : Nat) (i : Nat) (H : Heap) (locs : List Loc) (ls : Array Slot), lv_has ls 6 [(5, .int (nI i)), (0, .ref h1)] → va_P (dC, dI) classes [(h1, .inr (1, [.long (lN (p * q)), .long (lN (p * q * (p * q))), .long (lN (sp_f p q)), .long (lN (sp_cex p q)), .int (nI 1), .int (nI 0), .int (nI ka), .int (nI kb), .ref q1])), (q1, .inl (cB, 30, .inr (.inl (fun j => lN ((fz g i) j)))))] H → va_D A0 [(h1, .inr (1, [.long (lN (p * q)), .long (lN (p * q * (p * q))), .long (lN (sp_f p q)), .long (lN (sp_cex p q)), .int (nI 1), .int (nI 0), .int (nI ka), .int (nI kb), .ref q1])), (q1, .inl (cB, 30, .inr (.inl (fun j => lN ((fz g i) j)))))] → va_S A0 H0 H locs → (i ≤ 30) → 30 - i = mz → W pg l ev R s mi args below meth co H locs cells slots Q (F0 mi 96 ls []) := by
  intro mz
  induction mz using Nat.strongRecOn with
  | ind mz ih =>
    intro i H locs ls hl hP hD hS h1_ hk
    subst hk
    refine lv_iload hx hb d_M_open_96 (lv_at hl 0 rfl) ?_
    refine lv_bipush (v := nI 30) hx hb d_M_open_98 (by decide) ?_
    refine lv_icmp_ge (tgt := 117) hx hb d_M_open_100 (by decide) (fun hc100 => ?_) (fun hc100 => ?_)
    · skip
      rw [nI_leI (a := 30) (b := i) (by omega) (by omega)] at hc100
      exact k117 i _ _ ls (lv_sub hl [0, 1] rfl) hP hD hS (by omega)
    · skip
      rw [nI_leI (a := 30) (b := i) (by omega) (by omega)] at hc100
      refine lv_aload_n hx hb d_M_open_103 rfl (lv_at hl 1 rfl) ?_
      refine va_get (D := (dC, dI)) (ci := 1) (v := .ref q1) (C := R_M) (T := F_M) (N := 9) hx hb hts f_M hown hK hP 0 rfl rfl 8 (by decide) (hts _ (al_m aw_t215)) (fun _ h9 => h9) rfl d_M_open_104 ?_
      refine lv_iload hx hb d_M_open_107 (lv_at hl 0 rfl) ?_
      refine lv_lconst (v := lN 0) hx hb d_M_open_109 rfl ?_
      refine va_last hx hb hK hP hD hS 1 0 rfl rfl (vp_in_nI (by omega) (by decide)) d_M_open_110 (fun H locs hP hD hS => ?_)
      rw [nI_clamp (by omega), gu_eq] at hP hD
      rw [fz_s] at hP hD
      have hP : va_P (dC, dI) classes [(h1, .inr (1, [.long (lN (p * q)), .long (lN (p * q * (p * q))), .long (lN (sp_f p q)), .long (lN (sp_cex p q)), .int (nI 1), .int (nI 0), .int (nI ka), .int (nI kb), .ref q1])), (q1, .inl (cB, 30, .inr (.inl (fun j => lN ((fz g (i + 1)) j)))))] H := hP
      have hD : va_D A0 [(h1, .inr (1, [.long (lN (p * q)), .long (lN (p * q * (p * q))), .long (lN (sp_f p q)), .long (lN (sp_cex p q)), .int (nI 1), .int (nI 0), .int (nI ka), .int (nI kb), .ref q1])), (q1, .inl (cB, 30, .inr (.inl (fun j => lN ((fz g (i + 1)) j)))))] := hD
      refine lv_iinc (k := 0) (v := nI (i + 1)) (lv' := [(5, .int (nI (i + 1))), (0, .ref h1)]) hx hb d_M_open_111 hl rfl (ii_1 i) (by decide) rfl (fun ls hl => ?_)
      refine lv_goto (tgt := 96) hx hb d_M_open_114 (by decide) ?_
      exact ih _ (by omega) (i + 1) _ _ ls (lv_sub hl [0, 1] rfl) hP hD hS (by omega) rfl
end

set_option maxHeartbeats 4000000 in
set_option maxRecDepth 100000 in
theorem c_M_open (l : Launch) (dC : Nat → ClassId) (dI : Nat → Nat → Nat) (h1 q1 : Nat) (cB : ClassId) (p q bx cl cd rd : Nat) (g : Nat → Nat) (x y : Int32) (cx : Nat) (hj : Jv p q cx rd g) (hne : h1 ≠ q1) : Met l y_M_open w_M_open ({ frames := 0, cells := 0, slots := 0, locals := 0 }) (va_Pc [.ref h1, .int x, .int y] (fun U => va_P (dC, dI) classes [(h1, .inr (1, [.long (lN (p * q)), .long (lN (p * q * (p * q))), .long (lN (sp_f p q)), .long (lN (sp_cex p q)), .int (nI bx), .int (nI cl), .int (nI cd), .int (nI rd), .ref q1])), (q1, .inl (cB, 30, .inr (.inl (fun j => lN (g j)))))] U.heap ∧ va_K (dC, dI) classes [(cB, .long)] U)) (qmI (bI (sp_open p q x y)) (dC, dI) classes [(h1, .inr (1, [.long (lN (p * q)), .long (lN (p * q * (p * q))), .long (lN (sp_f p q)), .long (lN (sp_cex p q)), .int (nI (sel (sp_open p q x y) 1 bx)), .int (nI (sel (sp_open p q x y) 0 cl)), .int (nI (sel (sp_open p q x y) x.toInt.toNat cd)), .int (nI (sel (sp_open p q x y) y.toInt.toNat rd)), .ref q1])), (q1, .inl (cB, 30, .inr (.inl (fun j => lN ((selg (sp_open p q x y) (fz g 30) g) j)))))] h1 q1) 0 0 (two h1 q1) := by
  refine Met.ofW (cc := b_M_open) (maxL := 6) (ret := some .boolean) (by decide) rfl ?_
  intro pg ev s mi args below meth co s₁ B hml hv
  obtain ⟨rfl, hP, hK⟩ := hv
  have hx := B.exec
  have hb := B.bytes
  have hr := B.returns
  have hts := atoms_spec (ws := w_M_open) B.pre
  have hown : s.vm.findClass R_M = some mi.cls := findClass_of_methodNamed B.named
  have hlocks := B.notSynchronized
  have hS : va_S (two h1 q1) s.heap s.heap [] := va_S.rf
  have hP : va_P (dC, dI) classes [(h1, .inr (1, [.long (lN (p * q)), .long (lN (p * q * (p * q))), .long (lN (sp_f p q)), .long (lN (sp_cex p q)), .int (nI bx), .int (nI cl), .int (nI cd), .int (nI rd), .ref q1])), (q1, .inl (cB, 30, .inr (.inl (fun j => lN (g j)))))] s.heap := hP
  obtain ⟨A, hAe⟩ : ∃ A : Nat → Prop, A = two h1 q1 := ⟨_, rfl⟩
  rw [← hAe] at hS
  have hD : va_D A [(h1, .inr (1, [.long (lN (p * q)), .long (lN (p * q * (p * q))), .long (lN (sp_f p q)), .long (lN (sp_cex p q)), .int (nI bx), .int (nI cl), .int (nI cd), .int (nI rd), .ref q1])), (q1, .inl (cB, 30, .inr (.inl (fun j => lN (g j)))))] := by rw [hAe]; exact mu_D hne
  have hl := lv_entry ([.ref h1, .int x, .int y]) (n := 6) (Nat.le_of_ble_eq_true rfl)
  rw [lg_entry_eq]
  generalize (lg_sl ([.ref h1, .int x, .int y]) ++ List.replicate (6 - (lg_sl ([.ref h1, .int x, .int y])).length) Slot.unset).toArray = ls at hl ⊢
  have hl : lv_has ls 6 [(0, .ref h1), (1, .int x), (2, .int y)] := hl
  have hjn := jv_n hj
  refine lv_aload_n hx hb d_M_open_0 rfl (lv_at hl 0 rfl) ?_
  refine va_get (D := (dC, dI)) (ci := 1) (v := .long (lN (p * q))) (C := R_M) (T := F_M) (N := 9) hx hb hts f_M hown hK hP 0 rfl rfl 0 (by decide) (hts _ (al_m aw_t207)) (fun _ h9 => h9) rfl d_M_open_1 ?_
  refine lv_lconst (v := lN 0) hx hb d_M_open_4 rfl ?_
  refine W.lcmp hx hb d_M_open_5 ?_
  refine lv_if_eq (tgt := 25) hx hb d_M_open_6 (by decide) (fun hc6 => ?_) (fun hc6 => ?_)
  · skip
    rw [lg_cmp_eq] at hc6
    rw [pk_lEQ (a := p * q) (b := 0) (by omega) (by omega)] at hc6
    have hp0 : p = 0 := (jv_p0 hj).mp hc6
    have ho : sp_open p q x y = false := by simp [sp_open, hp0]
    refine lv_iconst (v := nI 0) hx hb d_M_open_25 (by decide) ?_
    rw [hAe] at hS
    exact mu_zret hx hb hr (by decide) (by simp only [ho, sel_f, selg_f]; exact hP) hS d_M_open_26 hlocks (by rw [ho]; decide)
  · skip
    rw [lg_cmp_eq] at hc6
    rw [pk_lEQ (a := p * q) (b := 0) (by omega) (by omega)] at hc6
    have hp0 : p ≠ 0 := fun hh => hc6 ((jv_p0 hj).mpr hh)
    refine lv_iload_n hx hb d_M_open_9 rfl (lv_at hl 1 rfl) ?_
    refine lv_iconst (v := nI 1) hx hb d_M_open_10 (by decide) ?_
    refine lv_icmp_lt (tgt := 25) hx hb d_M_open_11 (by decide) (fun hc11 => ?_) (fun hc11 => ?_)
    · skip
      rw [ix_lt (x := x) (n := 1) (by omega)] at hc11
      have ho : sp_open p q x y = false := by simp only [sp_open, sp_box, ne_eq, Bool.and_eq_false_iff, decide_eq_false_iff_not]; omega
      refine lv_iconst (v := nI 0) hx hb d_M_open_25 (by decide) ?_
      rw [hAe] at hS
      exact mu_zret hx hb hr (by decide) (by simp only [ho, sel_f, selg_f]; exact hP) hS d_M_open_26 hlocks (by rw [ho]; decide)
    · skip
      rw [ix_lt (x := x) (n := 1) (by omega)] at hc11
      refine lv_iload_n hx hb d_M_open_14 rfl (lv_at hl 1 rfl) ?_
      refine lv_bipush (v := nI 6) hx hb d_M_open_15 (by decide) ?_
      refine lv_icmp_gt (tgt := 25) hx hb d_M_open_17 (by decide) (fun hc17 => ?_) (fun hc17 => ?_)
      · skip
        rw [ix_gt (x := x) (n := 6) (by omega)] at hc17
        have ho : sp_open p q x y = false := by simp only [sp_open, sp_box, ne_eq, Bool.and_eq_false_iff, decide_eq_false_iff_not]; omega
        refine lv_iconst (v := nI 0) hx hb d_M_open_25 (by decide) ?_
        rw [hAe] at hS
        exact mu_zret hx hb hr (by decide) (by simp only [ho, sel_f, selg_f]; exact hP) hS d_M_open_26 hlocks (by rw [ho]; decide)
      · skip
        rw [ix_gt (x := x) (n := 6) (by omega)] at hc17
        refine lv_iload_n hx hb d_M_open_20 rfl (lv_at hl 2 rfl) ?_
        refine lv_iconst (v := nI 2) hx hb d_M_open_21 (by decide) ?_
        refine lv_icmp_ge (tgt := 27) hx hb d_M_open_22 (by decide) (fun hc22 => ?_) (fun hc22 => ?_)
        · skip
          rw [ix_le (x := y) (n := 2) (by omega)] at hc22
          obtain ⟨ka, hka, rfl⟩ := ix_of (x := x) (by omega)
          obtain ⟨kb, hkb, rfl⟩ := ix_of (x := y) (by omega)
          rw [nI_toInt hka] at hc11 hc17
          rw [nI_toInt hkb] at hc22
          refine lv_lconst (v := lN 1) hx hb d_M_open_27 rfl ?_
          refine lv_lstore_n (lv' := [(3, .long (lN 1)), (0, .ref h1), (1, .int (nI ka)), (2, .int (nI kb))]) hx hb d_M_open_28 rfl hl (by decide) rfl (fun ls hl => ?_)
          refine lv_iconst (v := nI 0) hx hb d_M_open_29 (by decide) ?_
          refine lv_istore (lv' := [(5, .int (nI 0)), (3, .long (lN 1)), (0, .ref h1), (1, .int (nI ka)), (2, .int (nI kb))]) hx hb d_M_open_30 hl (by decide) rfl (fun ls hl => ?_)
          refine lp_M_open_32 hx hb hts hown hK hP (by omega) (by omega) (by omega) hkb (fun r i ls hl hq hrl => ?_) _ 1 0 ls (lv_sub hl [1, 0, 2, 3, 4] rfl) (by omega) (by omega) (fun _ => by rw [Nat.pow_zero]) (fun hh => by rw [Nat.pow_zero]; exact hh) rfl
          refine lv_lload_n hx hb d_M_open_62 rfl (lv_at hl 0 rfl) ?_
          refine lv_aload_n hx hb d_M_open_63 rfl (lv_at hl 2 rfl) ?_
          refine va_get (D := (dC, dI)) (ci := 1) (v := .long (lN (p * q))) (C := R_M) (T := F_M) (N := 9) hx hb hts f_M hown hK hP 0 rfl rfl 0 (by decide) (hts _ (al_m aw_t207)) (fun _ h9 => h9) rfl d_M_open_64 ?_
          refine W.lcmp hx hb d_M_open_67 ?_
          refine lv_if_le (tgt := 73) hx hb d_M_open_68 (by decide) (fun hc68 => ?_) (fun hc68 => ?_)
          · skip
            rw [lg_cmp_le] at hc68
            rw [pk_lLE (a := r) (b := p * q) (by omega) (by omega)] at hc68
            have ho : sp_open p q (nI ka) (nI kb) = true := by have hnk : kb ^ ka ≤ p * q := hq.mp hc68; simp only [sp_open, sp_box, ix_nat hka, ix_nat hkb, nI_toInt hka, nI_toInt hkb, Int.toNat_natCast, ne_eq, Bool.and_eq_true, decide_eq_true_eq]; omega
            refine lv_aload_n hx hb d_M_open_73 rfl (lv_at hl 2 rfl) ?_
            refine lv_iconst (v := nI 1) hx hb d_M_open_74 (by decide) ?_
            refine va_put (D := (dC, dI)) (ci := 1) (v := .int (nI 1)) (ty := .boolean) (C := R_M) (T := F_M) (N := 9) hx hb hts f_M t_M t_M_ok n_M hown hK hP hD hS 0 rfl rfl 4 (by decide) (hts _ (al_m aw_t211)) (fun _ h9 => h9) rfl (by decide +kernel) rfl rfl (Nat.le_of_ble_eq_true rfl) d_M_open_75 (fun H locs hP hD hS => ?_)
            have hP : va_P (dC, dI) classes [(h1, .inr (1, [.long (lN (p * q)), .long (lN (p * q * (p * q))), .long (lN (sp_f p q)), .long (lN (sp_cex p q)), .int (nI 1), .int (nI cl), .int (nI cd), .int (nI rd), .ref q1])), (q1, .inl (cB, 30, .inr (.inl (fun j => lN (g j)))))] H := hP
            have hD : va_D A [(h1, .inr (1, [.long (lN (p * q)), .long (lN (p * q * (p * q))), .long (lN (sp_f p q)), .long (lN (sp_cex p q)), .int (nI 1), .int (nI cl), .int (nI cd), .int (nI rd), .ref q1])), (q1, .inl (cB, 30, .inr (.inl (fun j => lN (g j)))))] := hD
            refine lv_aload_n hx hb d_M_open_78 rfl (lv_at hl 2 rfl) ?_
            refine lv_iconst (v := nI 0) hx hb d_M_open_79 (by decide) ?_
            refine va_put (D := (dC, dI)) (ci := 1) (v := .int (nI 0)) (ty := .boolean) (C := R_M) (T := F_M) (N := 9) hx hb hts f_M t_M t_M_ok n_M hown hK hP hD hS 0 rfl rfl 5 (by decide) (hts _ (al_m aw_t212)) (fun _ h9 => h9) rfl (by decide +kernel) rfl rfl (Nat.le_of_ble_eq_true rfl) d_M_open_80 (fun H locs hP hD hS => ?_)
            have hP : va_P (dC, dI) classes [(h1, .inr (1, [.long (lN (p * q)), .long (lN (p * q * (p * q))), .long (lN (sp_f p q)), .long (lN (sp_cex p q)), .int (nI 1), .int (nI 0), .int (nI cd), .int (nI rd), .ref q1])), (q1, .inl (cB, 30, .inr (.inl (fun j => lN (g j)))))] H := hP
            have hD : va_D A [(h1, .inr (1, [.long (lN (p * q)), .long (lN (p * q * (p * q))), .long (lN (sp_f p q)), .long (lN (sp_cex p q)), .int (nI 1), .int (nI 0), .int (nI cd), .int (nI rd), .ref q1])), (q1, .inl (cB, 30, .inr (.inl (fun j => lN (g j)))))] := hD
            refine lv_aload_n hx hb d_M_open_83 rfl (lv_at hl 2 rfl) ?_
            refine lv_iload_n hx hb d_M_open_84 rfl (lv_at hl 3 rfl) ?_
            refine va_put (D := (dC, dI)) (ci := 1) (v := .int (nI ka)) (ty := .int) (C := R_M) (T := F_M) (N := 9) hx hb hts f_M t_M t_M_ok n_M hown hK hP hD hS 0 rfl rfl 6 (by decide) (hts _ (al_m aw_t213)) (fun _ h9 => h9) rfl (by decide +kernel) rfl rfl (Nat.le_of_ble_eq_true rfl) d_M_open_85 (fun H locs hP hD hS => ?_)
            have hP : va_P (dC, dI) classes [(h1, .inr (1, [.long (lN (p * q)), .long (lN (p * q * (p * q))), .long (lN (sp_f p q)), .long (lN (sp_cex p q)), .int (nI 1), .int (nI 0), .int (nI ka), .int (nI rd), .ref q1])), (q1, .inl (cB, 30, .inr (.inl (fun j => lN (g j)))))] H := hP
            have hD : va_D A [(h1, .inr (1, [.long (lN (p * q)), .long (lN (p * q * (p * q))), .long (lN (sp_f p q)), .long (lN (sp_cex p q)), .int (nI 1), .int (nI 0), .int (nI ka), .int (nI rd), .ref q1])), (q1, .inl (cB, 30, .inr (.inl (fun j => lN (g j)))))] := hD
            refine lv_aload_n hx hb d_M_open_88 rfl (lv_at hl 2 rfl) ?_
            refine lv_iload_n hx hb d_M_open_89 rfl (lv_at hl 4 rfl) ?_
            refine va_put (D := (dC, dI)) (ci := 1) (v := .int (nI kb)) (ty := .int) (C := R_M) (T := F_M) (N := 9) hx hb hts f_M t_M t_M_ok n_M hown hK hP hD hS 0 rfl rfl 7 (by decide) (hts _ (al_m aw_t214)) (fun _ h9 => h9) rfl (by decide +kernel) rfl rfl (Nat.le_of_ble_eq_true rfl) d_M_open_90 (fun H locs hP hD hS => ?_)
            have hP : va_P (dC, dI) classes [(h1, .inr (1, [.long (lN (p * q)), .long (lN (p * q * (p * q))), .long (lN (sp_f p q)), .long (lN (sp_cex p q)), .int (nI 1), .int (nI 0), .int (nI ka), .int (nI kb), .ref q1])), (q1, .inl (cB, 30, .inr (.inl (fun j => lN (g j)))))] H := hP
            have hD : va_D A [(h1, .inr (1, [.long (lN (p * q)), .long (lN (p * q * (p * q))), .long (lN (sp_f p q)), .long (lN (sp_cex p q)), .int (nI 1), .int (nI 0), .int (nI ka), .int (nI kb), .ref q1])), (q1, .inl (cB, 30, .inr (.inl (fun j => lN (g j)))))] := hD
            refine lv_iconst (v := nI 0) hx hb d_M_open_93 (by decide) ?_
            refine lv_istore (lv' := [(5, .int (nI 0)), (3, .long (lN r)), (0, .ref h1), (1, .int (nI ka)), (2, .int (nI kb))]) hx hb d_M_open_94 hl (by decide) rfl (fun ls hl => ?_)
            rw [← fz_0 (g := g)] at hP hD
            refine lp_M_open_96 hx hb hts hown hK  (fun i H locs ls hl hP hD hS hq2 => ?_) _ 0 _ _ ls (lv_sub hl [0, 2] rfl) hP hD hS (by omega) rfl
            refine lv_iconst (v := nI 1) hx hb d_M_open_117 (by decide) ?_
            rw [hAe] at hS
            exact mu_zret hx hb hr (by decide) (by simp only [ho, sel_t, selg_t, ix_nat hka, ix_nat hkb]; rw [hq2] at hP; exact hP) hS d_M_open_118 hlocks (by rw [ho]; decide)
          · skip
            rw [lg_cmp_le] at hc68
            rw [pk_lLE (a := r) (b := p * q) (by omega) (by omega)] at hc68
            have ho : sp_open p q (nI ka) (nI kb) = false := by have hnk : ¬ kb ^ ka ≤ p * q := (fun z => hc68 (hq.mpr z)); simp only [sp_open, sp_box, ix_nat hka, ix_nat hkb, nI_toInt hka, nI_toInt hkb, Int.toNat_natCast, ne_eq, Bool.and_eq_false_iff, decide_eq_false_iff_not]; omega
            refine lv_iconst (v := nI 0) hx hb d_M_open_71 (by decide) ?_
            rw [hAe] at hS
            exact mu_zret hx hb hr (by decide) (by simp only [ho, sel_f, selg_f]; exact hP) hS d_M_open_72 hlocks (by rw [ho]; decide)
        · skip
          rw [ix_le (x := y) (n := 2) (by omega)] at hc22
          have ho : sp_open p q x y = false := by simp only [sp_open, sp_box, ne_eq, Bool.and_eq_false_iff, decide_eq_false_iff_not]; omega
          refine lv_iconst (v := nI 0) hx hb d_M_open_25 (by decide) ?_
          rw [hAe] at hS
          exact mu_zret hx hb hr (by decide) (by simp only [ho, sel_f, selg_f]; exact hP) hS d_M_open_26 hlocks (by rw [ho]; decide)

set_option maxHeartbeats 4000000 in
set_option maxRecDepth 100000 in
theorem c_M_close (l : Launch) (dC : Nat → ClassId) (dI : Nat → Nat → Nat) (h1 q1 : Nat) (cB : ClassId) (p q bx cl cd rd : Nat) (g : Nat → Nat) (cx : Nat) (hj : Jv p q cx rd g) (hrd : rd < 2 ^ 31) (hbx : bx = 0 ↔ cx = 0) (hbx1 : bx ≤ 1) (hcl : cl ≤ 1) (hne : h1 ≠ q1) : Met l y_M_close w_M_close ({ frames := 3, cells := 0, slots := 0, locals := 83 }) (va_Pc [.ref h1] (fun U => va_P (dC, dI) classes [(h1, .inr (1, [.long (lN (p * q)), .long (lN (p * q * (p * q))), .long (lN (sp_f p q)), .long (lN (sp_cex p q)), .int (nI bx), .int (nI cl), .int (nI cd), .int (nI rd), .ref q1])), (q1, .inl (cB, 30, .inr (.inl (fun j => lN (g j)))))] U.heap ∧ va_K (dC, dI) classes [(cB, .long)] U)) (qmL (an_close p q cx cl g) (dC, dI) classes [(h1, .inr (1, [.long (lN (p * q)), .long (lN (p * q * (p * q))), .long (lN (sp_f p q)), .long (lN (sp_cex p q)), .int (nI bx), .int (nI (sel (decide (cx = 0)) cl 1)), .int (nI cd), .int (nI rd), .ref q1])), (q1, .inl (cB, 30, .inr (.inl (fun j => lN (g j)))))] h1 q1) 0 0 (two h1 q1) := by
  refine Met.ofW (cc := b_M_close) (maxL := 1) (ret := some .long) (by decide) rfl ?_
  intro pg ev s mi args below meth co s₁ B hml hv
  obtain ⟨rfl, hP, hK⟩ := hv
  have hx := B.exec
  have hb := B.bytes
  have hr := B.returns
  have hts := atoms_spec (ws := w_M_close) B.pre
  have hown : s.vm.findClass R_M = some mi.cls := findClass_of_methodNamed B.named
  have hlocks := B.notSynchronized
  have hS : va_S (two h1 q1) s.heap s.heap [] := va_S.rf
  have hP : va_P (dC, dI) classes [(h1, .inr (1, [.long (lN (p * q)), .long (lN (p * q * (p * q))), .long (lN (sp_f p q)), .long (lN (sp_cex p q)), .int (nI bx), .int (nI cl), .int (nI cd), .int (nI rd), .ref q1])), (q1, .inl (cB, 30, .inr (.inl (fun j => lN (g j)))))] s.heap := hP
  obtain ⟨A, hAe⟩ : ∃ A : Nat → Prop, A = two h1 q1 := ⟨_, rfl⟩
  rw [← hAe] at hS
  have hD : va_D A [(h1, .inr (1, [.long (lN (p * q)), .long (lN (p * q * (p * q))), .long (lN (sp_f p q)), .long (lN (sp_cex p q)), .int (nI bx), .int (nI cl), .int (nI cd), .int (nI rd), .ref q1])), (q1, .inl (cB, 30, .inr (.inl (fun j => lN (g j)))))] := by rw [hAe]; exact mu_D hne
  have hl := lv_entry ([.ref h1]) (n := 1) (Nat.le_of_ble_eq_true rfl)
  rw [lg_entry_eq]
  generalize (lg_sl ([.ref h1]) ++ List.replicate (1 - (lg_sl ([.ref h1])).length) Slot.unset).toArray = ls at hl ⊢
  have hl : lv_has ls 1 [(0, .ref h1)] := hl
  have hjn := jv_n hj
  have hcb := fa_cnt_le g 30
  refine lv_aload_n hx hb d_M_close_0 rfl (lv_at hl 0 rfl) ?_
  refine va_get (D := (dC, dI)) (ci := 1) (v := .int (nI bx)) (C := R_M) (T := F_M) (N := 9) hx hb hts f_M hown hK hP 0 rfl rfl 4 (by decide) (hts _ (al_m aw_t211)) (fun _ h9 => h9) rfl d_M_close_1 ?_
  refine lv_if_eq (tgt := 14) hx hb d_M_close_4 (by decide) (fun hc4 => ?_) (fun hc4 => ?_)
  · skip
    rw [← nI_0] at hc4
    rw [nI_eq (a := bx) (b := 0) (by omega) (by omega)] at hc4
    have hx0 : cx = 0 := hbx.mp hc4
    refine lv_aload_n hx hb d_M_close_14 rfl (lv_at hl 0 rfl) ?_
    refine va_get (D := (dC, dI)) (ci := 1) (v := .int (nI bx)) (C := R_M) (T := F_M) (N := 9) hx hb hts f_M hown hK hP 0 rfl rfl 4 (by decide) (hts _ (al_m aw_t211)) (fun _ h9 => h9) rfl d_M_close_15 ?_
    refine lv_if_eq (tgt := 27) hx hb d_M_close_18 (by decide) (fun hc18 => ?_) (fun hc18 => ?_)
    · skip
      rw [← nI_0] at hc18
      rw [nI_eq (a := bx) (b := 0) (by omega) (by omega)] at hc18
      refine lv_ldc2 (v := -2) hx hb hown (hts _ (al_m aw_t307)) d_M_close_27 ?_
      rw [hAe] at hS
      exact mu_lret hx hb hr (by simp only [decide_eq_true hx0, sel_t]; exact hP) hS d_M_close_30 hlocks (by simp [an_close, hx0])
    · skip
      rw [← nI_0] at hc18
      rw [nI_eq (a := bx) (b := 0) (by omega) (by omega)] at hc18
      omega
  · skip
    rw [← nI_0] at hc4
    rw [nI_eq (a := bx) (b := 0) (by omega) (by omega)] at hc4
    have hx0 : cx ≠ 0 := fun hh => hc4 (hbx.mpr hh)
    obtain ⟨hk, hx1, hx6, hr2, hrp, hgj⟩ := jv_box hj hx0
    have hbg := ma_big hk
    have hp3 := hk.1.1
    have hq3 := hk.2.1.1
    have hp9 := hk.1.2.1
    have hq9 := hk.2.1.2.1
    have hkf := ma_keyf hk
    refine lv_aload_n hx hb d_M_close_7 rfl (lv_at hl 0 rfl) ?_
    refine va_get (D := (dC, dI)) (ci := 1) (v := .int (nI cl)) (C := R_M) (T := F_M) (N := 9) hx hb hts f_M hown hK hP 0 rfl rfl 5 (by decide) (hts _ (al_m aw_t212)) (fun _ h9 => h9) rfl d_M_close_8 ?_
    refine lv_if_eq (tgt := 31) hx hb d_M_close_11 (by decide) (fun hc11 => ?_) (fun hc11 => ?_)
    · skip
      rw [← nI_0] at hc11
      rw [nI_eq (a := cl) (b := 0) (by omega) (by omega)] at hc11
      have hcl0 : cl ≠ 1 := by omega
      refine lv_aload_n hx hb d_M_close_31 rfl (lv_at hl 0 rfl) ?_
      refine lv_iconst (v := nI 1) hx hb d_M_close_32 (by decide) ?_
      refine va_put (D := (dC, dI)) (ci := 1) (v := .int (nI 1)) (ty := .boolean) (C := R_M) (T := F_M) (N := 9) hx hb hts f_M t_M t_M_ok n_M hown hK hP hD hS 0 rfl rfl 5 (by decide) (hts _ (al_m aw_t212)) (fun _ h9 => h9) rfl (by decide +kernel) rfl rfl (Nat.le_of_ble_eq_true rfl) d_M_close_33 (fun H locs hP hD hS => ?_)
      have hP : va_P (dC, dI) classes [(h1, .inr (1, [.long (lN (p * q)), .long (lN (p * q * (p * q))), .long (lN (sp_f p q)), .long (lN (sp_cex p q)), .int (nI bx), .int (nI 1), .int (nI cd), .int (nI rd), .ref q1])), (q1, .inl (cB, 30, .inr (.inl (fun j => lN (g j)))))] H := hP
      have hD : va_D A [(h1, .inr (1, [.long (lN (p * q)), .long (lN (p * q * (p * q))), .long (lN (sp_f p q)), .long (lN (sp_cex p q)), .int (nI bx), .int (nI 1), .int (nI cd), .int (nI rd), .ref q1])), (q1, .inl (cB, 30, .inr (.inl (fun j => lN (g j)))))] := hD
      refine lv_aload_n hx hb d_M_close_36 rfl (lv_at hl 0 rfl) ?_
      refine lv_aload_n hx hb d_M_close_37 rfl (lv_at hl 0 rfl) ?_
      refine pu_l (va_runV (As := []) (rest := [.ref h1]) ⟨hx, hb, hml, hown, hts⟩ (c_M_product l dC dI h1 q1 cB p q bx 1 cd rd g hk (fun j hj0 => (hgj j hj0).1)) (cwV 0 hts (al_V (k_M_product) (aw_t338) (aw_t340) (aw_p21) (aw_t2)) rfl rfl rfl (by decide +kernel) ⟨Nat.le_of_ble_eq_true rfl, Nat.le_of_ble_eq_true rfl⟩) (pu_preV (q0 := 0) (ci := 1) hK hP rfl rfl) rfl rfl hl.1 rfl (lv_room (Nat.le_of_ble_eq_true rfl)) d_M_close_38 ⟨Nat.zero_le _, Nat.zero_le _⟩) hS (fun H locs hkp hS => ?_)
      have hP := hkp _ _ _ hP
      obtain ⟨hs1, hs2, hs3⟩ := fa_seal hk (fun j hj0 => (hgj j hj0).2)
      refine pu_l (va_runV (As := [.long (lN (sp_prod g 30 % (p * q * (p * q))))]) (rest := []) ⟨hx, hb, hml, hown, hts⟩ (c_M_messageIn l dC dI h1 q1 cB p q bx 1 cd rd g (sp_prod g 30 % (p * q * (p * q))) hk hs3 hs1 hs2) (cwV 1 hts (al_V (k_M_messageIn) (aw_t279) (aw_t281) (aw_p17) (aw_t2)) rfl rfl rfl (by decide +kernel) ⟨Nat.le_of_ble_eq_true rfl, Nat.le_of_ble_eq_true rfl⟩) (pu_preV (q0 := 0) (ci := 1) hK hP rfl rfl) rfl rfl hl.1 rfl (lv_room (Nat.le_of_ble_eq_true rfl)) d_M_close_41 ⟨Nat.zero_le _, Nat.zero_le _⟩) hS (fun H locs hkp hS => ?_)
      have hP := hkp _ _ _ hP
      rw [hAe] at hS
      exact mu_lret hx hb hr (by simp only [decide_eq_false hx0, sel_f]; exact hP) hS d_M_close_44 hlocks (by simp [an_close, hx0, hcl0])
    · skip
      rw [← nI_0] at hc11
      rw [nI_eq (a := cl) (b := 0) (by omega) (by omega)] at hc11
      have hc1 : cl = 1 := by omega
      refine lv_aload_n hx hb d_M_close_14 rfl (lv_at hl 0 rfl) ?_
      refine va_get (D := (dC, dI)) (ci := 1) (v := .int (nI bx)) (C := R_M) (T := F_M) (N := 9) hx hb hts f_M hown hK hP 0 rfl rfl 4 (by decide) (hts _ (al_m aw_t211)) (fun _ h9 => h9) rfl d_M_close_15 ?_
      refine lv_if_eq (tgt := 27) hx hb d_M_close_18 (by decide) (fun hc18 => ?_) (fun hc18 => ?_)
      · skip
        rw [← nI_0] at hc18
        rw [nI_eq (a := bx) (b := 0) (by omega) (by omega)] at hc18
        omega
      · skip
        rw [← nI_0] at hc18
        rw [nI_eq (a := bx) (b := 0) (by omega) (by omega)] at hc18
        refine lv_ldc2 (v := -3) hx hb hown (hts _ (al_m aw_t324)) d_M_close_21 ?_
        refine lv_goto (tgt := 30) hx hb d_M_close_24 (by decide) ?_
        rw [hAe] at hS
        exact mu_lret hx hb hr (by simp only [decide_eq_false hx0, sel_f]; rw [hc1] at hP; exact hP) hS d_M_close_30 hlocks (by simp [an_close, hx0, hc1])

set_option maxHeartbeats 4000000 in
set_option maxRecDepth 100000 in
theorem c_M_withdraw (l : Launch) (dC : Nat → ClassId) (dI : Nat → Nat → Nat) (h1 q1 : Nat) (cB : ClassId) (p q bx cl cd rd : Nat) (g : Nat → Nat) (x : Int32) (cx : Nat) (hj : Jv p q cx rd g) (hrd : rd < 2 ^ 31) (hbx : bx = 0 ↔ cx = 0) (hbx1 : bx ≤ 1) (hcl : cl ≤ 1) (hne : h1 ≠ q1) : Met l y_M_withdraw w_M_withdraw ({ frames := 0, cells := 0, slots := 0, locals := 0 }) (va_Pc [.ref h1, .int x] (fun U => va_P (dC, dI) classes [(h1, .inr (1, [.long (lN (p * q)), .long (lN (p * q * (p * q))), .long (lN (sp_f p q)), .long (lN (sp_cex p q)), .int (nI bx), .int (nI cl), .int (nI cd), .int (nI rd), .ref q1])), (q1, .inl (cB, 30, .inr (.inl (fun j => lN (g j)))))] U.heap ∧ va_K (dC, dI) classes [(cB, .long)] U)) (qmL (an_withdraw cx cl g x) (dC, dI) classes [(h1, .inr (1, [.long (lN (p * q)), .long (lN (p * q * (p * q))), .long (lN (sp_f p q)), .long (lN (sp_cex p q)), .int (nI bx), .int (nI cl), .int (nI cd), .int (nI rd), .ref q1])), (q1, .inl (cB, 30, .inr (.inl (fun j => lN ((nx_withdraw cx cl g x) j)))))] h1 q1) 0 0 (two h1 q1) := by
  refine Met.ofW (cc := b_M_withdraw) (maxL := 4) (ret := some .long) (by decide) rfl ?_
  intro pg ev s mi args below meth co s₁ B hml hv
  obtain ⟨rfl, hP, hK⟩ := hv
  have hx := B.exec
  have hb := B.bytes
  have hr := B.returns
  have hts := atoms_spec (ws := w_M_withdraw) B.pre
  have hown : s.vm.findClass R_M = some mi.cls := findClass_of_methodNamed B.named
  have hlocks := B.notSynchronized
  have hS : va_S (two h1 q1) s.heap s.heap [] := va_S.rf
  have hP : va_P (dC, dI) classes [(h1, .inr (1, [.long (lN (p * q)), .long (lN (p * q * (p * q))), .long (lN (sp_f p q)), .long (lN (sp_cex p q)), .int (nI bx), .int (nI cl), .int (nI cd), .int (nI rd), .ref q1])), (q1, .inl (cB, 30, .inr (.inl (fun j => lN (g j)))))] s.heap := hP
  obtain ⟨A, hAe⟩ : ∃ A : Nat → Prop, A = two h1 q1 := ⟨_, rfl⟩
  rw [← hAe] at hS
  have hD : va_D A [(h1, .inr (1, [.long (lN (p * q)), .long (lN (p * q * (p * q))), .long (lN (sp_f p q)), .long (lN (sp_cex p q)), .int (nI bx), .int (nI cl), .int (nI cd), .int (nI rd), .ref q1])), (q1, .inl (cB, 30, .inr (.inl (fun j => lN (g j)))))] := by rw [hAe]; exact mu_D hne
  have hl := lv_entry ([.ref h1, .int x]) (n := 4) (Nat.le_of_ble_eq_true rfl)
  rw [lg_entry_eq]
  generalize (lg_sl ([.ref h1, .int x]) ++ List.replicate (4 - (lg_sl ([.ref h1, .int x])).length) Slot.unset).toArray = ls at hl ⊢
  have hl : lv_has ls 4 [(0, .ref h1), (1, .int x)] := hl
  have hjn := jv_n hj
  have hcb := fa_cnt_le g 30
  refine lv_aload_n hx hb d_M_withdraw_0 rfl (lv_at hl 0 rfl) ?_
  refine va_get (D := (dC, dI)) (ci := 1) (v := .int (nI bx)) (C := R_M) (T := F_M) (N := 9) hx hb hts f_M hown hK hP 0 rfl rfl 4 (by decide) (hts _ (al_m aw_t211)) (fun _ h9 => h9) rfl d_M_withdraw_1 ?_
  refine lv_if_eq (tgt := 14) hx hb d_M_withdraw_4 (by decide) (fun hc4 => ?_) (fun hc4 => ?_)
  · skip
    rw [← nI_0] at hc4
    rw [nI_eq (a := bx) (b := 0) (by omega) (by omega)] at hc4
    have hx0 : cx = 0 := hbx.mp hc4
    refine lv_aload_n hx hb d_M_withdraw_14 rfl (lv_at hl 0 rfl) ?_
    refine va_get (D := (dC, dI)) (ci := 1) (v := .int (nI bx)) (C := R_M) (T := F_M) (N := 9) hx hb hts f_M hown hK hP 0 rfl rfl 4 (by decide) (hts _ (al_m aw_t211)) (fun _ h9 => h9) rfl d_M_withdraw_15 ?_
    refine lv_if_eq (tgt := 27) hx hb d_M_withdraw_18 (by decide) (fun hc18 => ?_) (fun hc18 => ?_)
    · skip
      rw [← nI_0] at hc18
      rw [nI_eq (a := bx) (b := 0) (by omega) (by omega)] at hc18
      refine lv_ldc2 (v := -2) hx hb hown (hts _ (al_m aw_t307)) d_M_withdraw_27 ?_
      rw [hAe] at hS
      exact mu_lret hx hb hr (by simp only [nx_withdraw, if_pos hx0]; exact hP) hS d_M_withdraw_30 hlocks (by simp [an_withdraw, hx0])
    · skip
      rw [← nI_0] at hc18
      rw [nI_eq (a := bx) (b := 0) (by omega) (by omega)] at hc18
      omega
  · skip
    rw [← nI_0] at hc4
    rw [nI_eq (a := bx) (b := 0) (by omega) (by omega)] at hc4
    have hx0 : cx ≠ 0 := fun hh => hc4 (hbx.mpr hh)
    obtain ⟨hk, hx1, hx6, hr2, hrp, hgj⟩ := jv_box hj hx0
    have hbg := ma_big hk
    have hp3 := hk.1.1
    have hq3 := hk.2.1.1
    have hp9 := hk.1.2.1
    have hq9 := hk.2.1.2.1
    have hkf := ma_keyf hk
    refine lv_aload_n hx hb d_M_withdraw_7 rfl (lv_at hl 0 rfl) ?_
    refine va_get (D := (dC, dI)) (ci := 1) (v := .int (nI cl)) (C := R_M) (T := F_M) (N := 9) hx hb hts f_M hown hK hP 0 rfl rfl 5 (by decide) (hts _ (al_m aw_t212)) (fun _ h9 => h9) rfl d_M_withdraw_8 ?_
    refine lv_if_eq (tgt := 31) hx hb d_M_withdraw_11 (by decide) (fun hc11 => ?_) (fun hc11 => ?_)
    · skip
      rw [← nI_0] at hc11
      rw [nI_eq (a := cl) (b := 0) (by omega) (by omega)] at hc11
      have hcl0 : cl ≠ 1 := by omega
      refine lv_iload_n hx hb d_M_withdraw_31 rfl (lv_at hl 1 rfl) ?_
      refine lv_if_lt (tgt := 41) hx hb d_M_withdraw_32 (by decide) (fun hc32 => ?_) (fun hc32 => ?_)
      · skip
        rw [← nI_0] at hc32
        rw [ix_lt (x := x) (n := 0) (by omega)] at hc32
        have hcb_ : sp_cand 30 x = false := by simp only [sp_cand, Bool.and_eq_false_iff, decide_eq_false_iff_not]; omega
        refine lv_ldc2 (v := -4) hx hb hown (hts _ (al_m aw_t270)) d_M_withdraw_41 ?_
        rw [hAe] at hS
        exact mu_lret hx hb hr (by simp only [nx_withdraw, if_neg hx0, if_neg hcl0, hcb_, Bool.false_eq_true, if_false]; exact hP) hS d_M_withdraw_44 hlocks (by simp [an_withdraw, hx0, hcl0, hcb_])
      · skip
        rw [← nI_0] at hc32
        rw [ix_lt (x := x) (n := 0) (by omega)] at hc32
        refine lv_iload_n hx hb d_M_withdraw_35 rfl (lv_at hl 1 rfl) ?_
        refine lv_bipush (v := nI 29) hx hb d_M_withdraw_36 (by decide) ?_
        refine lv_icmp_le (tgt := 45) hx hb d_M_withdraw_38 (by decide) (fun hc38 => ?_) (fun hc38 => ?_)
        · skip
          rw [ix_ge (x := x) (n := 29) (by omega)] at hc38
          have hct : sp_cand 30 x = true := by simp only [sp_cand, Bool.and_eq_true, decide_eq_true_eq]; omega
          obtain ⟨a, ha1, ha2, rfl⟩ := sp_cand_of hct
          have hga := (hgj a ha1).1
          refine lv_aload_n hx hb d_M_withdraw_45 rfl (lv_at hl 0 rfl) ?_
          refine va_get (D := (dC, dI)) (ci := 1) (v := .ref q1) (C := R_M) (T := F_M) (N := 9) hx hb hts f_M hown hK hP 0 rfl rfl 8 (by decide) (hts _ (al_m aw_t215)) (fun _ h9 => h9) rfl d_M_withdraw_46 ?_
          refine lv_iload_n hx hb d_M_withdraw_49 rfl (lv_at hl 1 rfl) ?_
          refine va_lald hx hb hK hP 1 0 rfl rfl (vp_in_nI (by omega) (by decide)) d_M_withdraw_50 ?_
          refine wk_l (y := lN (g a)) (by rw [nI_clamp (by omega)]) ?_
          refine lv_lstore_n (lv' := [(2, .long (lN (g a))), (0, .ref h1), (1, .int (nI a))]) hx hb d_M_withdraw_51 rfl hl (by decide) rfl (fun ls hl => ?_)
          refine lv_aload_n hx hb d_M_withdraw_52 rfl (lv_at hl 1 rfl) ?_
          refine va_get (D := (dC, dI)) (ci := 1) (v := .ref q1) (C := R_M) (T := F_M) (N := 9) hx hb hts f_M hown hK hP 0 rfl rfl 8 (by decide) (hts _ (al_m aw_t215)) (fun _ h9 => h9) rfl d_M_withdraw_53 ?_
          refine lv_iload_n hx hb d_M_withdraw_56 rfl (lv_at hl 2 rfl) ?_
          refine lv_lconst (v := lN 0) hx hb d_M_withdraw_57 rfl ?_
          refine va_last hx hb hK hP hD hS 1 0 rfl rfl (vp_in_nI (by omega) (by decide)) d_M_withdraw_58 (fun H locs hP hD hS => ?_)
          rw [nI_clamp (by omega), gu_eq] at hP hD
          have hP : va_P (dC, dI) classes [(h1, .inr (1, [.long (lN (p * q)), .long (lN (p * q * (p * q))), .long (lN (sp_f p q)), .long (lN (sp_cex p q)), .int (nI bx), .int (nI cl), .int (nI cd), .int (nI rd), .ref q1])), (q1, .inl (cB, 30, .inr (.inl (fun j => lN ((gu g a 0) j)))))] H := hP
          have hD : va_D A [(h1, .inr (1, [.long (lN (p * q)), .long (lN (p * q * (p * q))), .long (lN (sp_f p q)), .long (lN (sp_cex p q)), .int (nI bx), .int (nI cl), .int (nI cd), .int (nI rd), .ref q1])), (q1, .inl (cB, 30, .inr (.inl (fun j => lN ((gu g a 0) j)))))] := hD
          refine lv_lload_n hx hb d_M_withdraw_59 rfl (lv_at hl 0 rfl) ?_
          refine lv_lconst (v := lN 0) hx hb d_M_withdraw_60 rfl ?_
          refine W.lcmp hx hb d_M_withdraw_61 ?_
          refine lv_if_ne (tgt := 71) hx hb d_M_withdraw_62 (by decide) (fun hc62 => ?_) (fun hc62 => ?_)
          · skip
            rw [lg_cmp_eq] at hc62
            rw [pk_lEQ (a := g a) (b := 0) (by omega) (by omega)] at hc62
            refine lv_lload_n hx hb d_M_withdraw_71 rfl (lv_at hl 0 rfl) ?_
            rw [hAe] at hS
            exact mu_lret hx hb hr (by simp only [nx_withdraw, if_neg hx0, if_neg hcl0, hct, if_true, ix_nat ha2]; exact hP) hS d_M_withdraw_72 hlocks (by simp [an_withdraw, hx0, hcl0, hct, ix_nat ha2, hc62])
          · skip
            rw [lg_cmp_eq] at hc62
            rw [pk_lEQ (a := g a) (b := 0) (by omega) (by omega)] at hc62
            refine lv_ldc2 (v := -6) hx hb hown (hts _ (al_m aw_t325)) d_M_withdraw_65 ?_
            refine lv_goto (tgt := 72) hx hb d_M_withdraw_68 (by decide) ?_
            rw [hAe] at hS
            exact mu_lret hx hb hr (by simp only [nx_withdraw, if_neg hx0, if_neg hcl0, hct, if_true, ix_nat ha2]; exact hP) hS d_M_withdraw_72 hlocks (by simp [an_withdraw, hx0, hcl0, hct, ix_nat ha2, hc62])
        · skip
          rw [ix_ge (x := x) (n := 29) (by omega)] at hc38
          have hcb_ : sp_cand 30 x = false := by simp only [sp_cand, Bool.and_eq_false_iff, decide_eq_false_iff_not]; omega
          refine lv_ldc2 (v := -4) hx hb hown (hts _ (al_m aw_t270)) d_M_withdraw_41 ?_
          rw [hAe] at hS
          exact mu_lret hx hb hr (by simp only [nx_withdraw, if_neg hx0, if_neg hcl0, hcb_, Bool.false_eq_true, if_false]; exact hP) hS d_M_withdraw_44 hlocks (by simp [an_withdraw, hx0, hcl0, hcb_])
    · skip
      rw [← nI_0] at hc11
      rw [nI_eq (a := cl) (b := 0) (by omega) (by omega)] at hc11
      have hc1 : cl = 1 := by omega
      refine lv_aload_n hx hb d_M_withdraw_14 rfl (lv_at hl 0 rfl) ?_
      refine va_get (D := (dC, dI)) (ci := 1) (v := .int (nI bx)) (C := R_M) (T := F_M) (N := 9) hx hb hts f_M hown hK hP 0 rfl rfl 4 (by decide) (hts _ (al_m aw_t211)) (fun _ h9 => h9) rfl d_M_withdraw_15 ?_
      refine lv_if_eq (tgt := 27) hx hb d_M_withdraw_18 (by decide) (fun hc18 => ?_) (fun hc18 => ?_)
      · skip
        rw [← nI_0] at hc18
        rw [nI_eq (a := bx) (b := 0) (by omega) (by omega)] at hc18
        omega
      · skip
        rw [← nI_0] at hc18
        rw [nI_eq (a := bx) (b := 0) (by omega) (by omega)] at hc18
        refine lv_ldc2 (v := -3) hx hb hown (hts _ (al_m aw_t324)) d_M_withdraw_21 ?_
        refine lv_goto (tgt := 30) hx hb d_M_withdraw_24 (by decide) ?_
        rw [hAe] at hS
        exact mu_lret hx hb hr (by simp only [nx_withdraw, if_neg hx0, if_pos hc1]; exact hP) hS d_M_withdraw_30 hlocks (by simp [an_withdraw, hx0, hc1])

set_option maxHeartbeats 4000000 in
set_option maxRecDepth 100000 in
theorem c_M_cast (l : Launch) (dC : Nat → ClassId) (dI : Nat → Nat → Nat) (h1 q1 : Nat) (cB : ClassId) (p q bx cl cd rd : Nat) (g : Nat → Nat) (x : Int32) (y : Int64) (cx : Nat) (hj : Jv p q cx rd g) (hrd : rd < 2 ^ 31) (hbx : bx = 0 ↔ cx = 0) (hbx1 : bx ≤ 1) (hcl : cl ≤ 1) (hne : h1 ≠ q1) : Met l y_M_cast w_M_cast ({ frames := 2, cells := 0, slots := 0, locals := 51 }) (va_Pc [.ref h1, .int x, .long y] (fun U => va_P (dC, dI) classes [(h1, .inr (1, [.long (lN (p * q)), .long (lN (p * q * (p * q))), .long (lN (sp_f p q)), .long (lN (sp_cex p q)), .int (nI bx), .int (nI cl), .int (nI cd), .int (nI rd), .ref q1])), (q1, .inl (cB, 30, .inr (.inl (fun j => lN (g j)))))] U.heap ∧ va_K (dC, dI) classes [(cB, .long)] U)) (qmI (an_cast p q cx rd cl g x y) (dC, dI) classes [(h1, .inr (1, [.long (lN (p * q)), .long (lN (p * q * (p * q))), .long (lN (sp_f p q)), .long (lN (sp_cex p q)), .int (nI bx), .int (nI cl), .int (nI cd), .int (nI rd), .ref q1])), (q1, .inl (cB, 30, .inr (.inl (fun j => lN ((nx_cast p q cx rd cl g x y) j)))))] h1 q1) 0 0 (two h1 q1) := by
  refine Met.ofW (cc := b_M_cast) (maxL := 5) (ret := some .int) (by decide) rfl ?_
  intro pg ev s mi args below meth co s₁ B hml hv
  obtain ⟨rfl, hP, hK⟩ := hv
  have hx := B.exec
  have hb := B.bytes
  have hr := B.returns
  have hts := atoms_spec (ws := w_M_cast) B.pre
  have hown : s.vm.findClass R_M = some mi.cls := findClass_of_methodNamed B.named
  have hlocks := B.notSynchronized
  have hS : va_S (two h1 q1) s.heap s.heap [] := va_S.rf
  have hP : va_P (dC, dI) classes [(h1, .inr (1, [.long (lN (p * q)), .long (lN (p * q * (p * q))), .long (lN (sp_f p q)), .long (lN (sp_cex p q)), .int (nI bx), .int (nI cl), .int (nI cd), .int (nI rd), .ref q1])), (q1, .inl (cB, 30, .inr (.inl (fun j => lN (g j)))))] s.heap := hP
  obtain ⟨A, hAe⟩ : ∃ A : Nat → Prop, A = two h1 q1 := ⟨_, rfl⟩
  rw [← hAe] at hS
  have hD : va_D A [(h1, .inr (1, [.long (lN (p * q)), .long (lN (p * q * (p * q))), .long (lN (sp_f p q)), .long (lN (sp_cex p q)), .int (nI bx), .int (nI cl), .int (nI cd), .int (nI rd), .ref q1])), (q1, .inl (cB, 30, .inr (.inl (fun j => lN (g j)))))] := by rw [hAe]; exact mu_D hne
  have hl := lv_entry ([.ref h1, .int x, .long y]) (n := 5) (Nat.le_of_ble_eq_true rfl)
  rw [lg_entry_eq]
  generalize (lg_sl ([.ref h1, .int x, .long y]) ++ List.replicate (5 - (lg_sl ([.ref h1, .int x, .long y])).length) Slot.unset).toArray = ls at hl ⊢
  have hl : lv_has ls 5 [(0, .ref h1), (1, .int x), (2, .long y)] := hl
  have hjn := jv_n hj
  have hcb := fa_cnt_le g 30
  refine lv_aload_n hx hb d_M_cast_0 rfl (lv_at hl 0 rfl) ?_
  refine va_get (D := (dC, dI)) (ci := 1) (v := .int (nI bx)) (C := R_M) (T := F_M) (N := 9) hx hb hts f_M hown hK hP 0 rfl rfl 4 (by decide) (hts _ (al_m aw_t211)) (fun _ h9 => h9) rfl d_M_cast_1 ?_
  refine lv_if_eq (tgt := 14) hx hb d_M_cast_4 (by decide) (fun hc4 => ?_) (fun hc4 => ?_)
  · skip
    rw [← nI_0] at hc4
    rw [nI_eq (a := bx) (b := 0) (by omega) (by omega)] at hc4
    have hx0 : cx = 0 := hbx.mp hc4
    refine lv_aload_n hx hb d_M_cast_14 rfl (lv_at hl 0 rfl) ?_
    refine va_get (D := (dC, dI)) (ci := 1) (v := .int (nI bx)) (C := R_M) (T := F_M) (N := 9) hx hb hts f_M hown hK hP 0 rfl rfl 4 (by decide) (hts _ (al_m aw_t211)) (fun _ h9 => h9) rfl d_M_cast_15 ?_
    refine lv_if_eq (tgt := 26) hx hb d_M_cast_18 (by decide) (fun hc18 => ?_) (fun hc18 => ?_)
    · skip
      rw [← nI_0] at hc18
      rw [nI_eq (a := bx) (b := 0) (by omega) (by omega)] at hc18
      refine lv_bipush (v := -2) hx hb d_M_cast_26 (by decide) ?_
      rw [hAe] at hS
      exact mu_iret hx hb hr (by simp only [nx_cast, if_pos hx0]; exact hP) hS d_M_cast_28 hlocks (by simp [an_cast, hx0])
    · skip
      rw [← nI_0] at hc18
      rw [nI_eq (a := bx) (b := 0) (by omega) (by omega)] at hc18
      omega
  · skip
    rw [← nI_0] at hc4
    rw [nI_eq (a := bx) (b := 0) (by omega) (by omega)] at hc4
    have hx0 : cx ≠ 0 := fun hh => hc4 (hbx.mpr hh)
    obtain ⟨hk, hx1, hx6, hr2, hrp, hgj⟩ := jv_box hj hx0
    have hbg := ma_big hk
    have hp3 := hk.1.1
    have hq3 := hk.2.1.1
    have hp9 := hk.1.2.1
    have hq9 := hk.2.1.2.1
    have hkf := ma_keyf hk
    refine lv_aload_n hx hb d_M_cast_7 rfl (lv_at hl 0 rfl) ?_
    refine va_get (D := (dC, dI)) (ci := 1) (v := .int (nI cl)) (C := R_M) (T := F_M) (N := 9) hx hb hts f_M hown hK hP 0 rfl rfl 5 (by decide) (hts _ (al_m aw_t212)) (fun _ h9 => h9) rfl d_M_cast_8 ?_
    refine lv_if_eq (tgt := 29) hx hb d_M_cast_11 (by decide) (fun hc11 => ?_) (fun hc11 => ?_)
    · skip
      rw [← nI_0] at hc11
      rw [nI_eq (a := cl) (b := 0) (by omega) (by omega)] at hc11
      have hcl0 : cl ≠ 1 := by omega
      refine lv_iload_n hx hb d_M_cast_29 rfl (lv_at hl 1 rfl) ?_
      refine lv_if_lt (tgt := 47) hx hb d_M_cast_30 (by decide) (fun hc30 => ?_) (fun hc30 => ?_)
      · skip
        rw [← nI_0] at hc30
        rw [ix_lt (x := x) (n := 0) (by omega)] at hc30
        have hcb_ : sp_cand 30 x = false := by simp only [sp_cand, Bool.and_eq_false_iff, decide_eq_false_iff_not]; omega
        refine lv_bipush (v := -4) hx hb d_M_cast_47 (by decide) ?_
        rw [hAe] at hS
        exact mu_iret hx hb hr (by rw [show nx_cast p q cx rd cl g x y = g from cs_bad hx0 hcl0 (by simp [hcb_])]; exact hP) hS d_M_cast_49 hlocks ((ct_bad hx0 hcl0 (by simp [hcb_])).symm)
      · skip
        rw [← nI_0] at hc30
        rw [ix_lt (x := x) (n := 0) (by omega)] at hc30
        refine lv_iload_n hx hb d_M_cast_33 rfl (lv_at hl 1 rfl) ?_
        refine lv_bipush (v := nI 29) hx hb d_M_cast_34 (by decide) ?_
        refine lv_icmp_gt (tgt := 47) hx hb d_M_cast_36 (by decide) (fun hc36 => ?_) (fun hc36 => ?_)
        · skip
          rw [ix_gt (x := x) (n := 29) (by omega)] at hc36
          have hcb_ : sp_cand 30 x = false := by simp only [sp_cand, Bool.and_eq_false_iff, decide_eq_false_iff_not]; omega
          refine lv_bipush (v := -4) hx hb d_M_cast_47 (by decide) ?_
          rw [hAe] at hS
          exact mu_iret hx hb hr (by rw [show nx_cast p q cx rd cl g x y = g from cs_bad hx0 hcl0 (by simp [hcb_])]; exact hP) hS d_M_cast_49 hlocks ((ct_bad hx0 hcl0 (by simp [hcb_])).symm)
        · skip
          rw [ix_gt (x := x) (n := 29) (by omega)] at hc36
          have hct : sp_cand 30 x = true := by simp only [sp_cand, Bool.and_eq_true, decide_eq_true_eq]; omega
          refine lv_aload_n hx hb d_M_cast_39 rfl (lv_at hl 0 rfl) ?_
          refine lv_lload_n hx hb d_M_cast_40 rfl (lv_at hl 2 rfl) ?_
          refine pu_i (va_runV (As := [.long y]) (rest := []) ⟨hx, hb, hml, hown, hts⟩ (c_M_isSeal l dC dI h1 q1 cB p q bx cl cd rd g y hk) (cwV 1 hts (al_V (k_M_isSeal) (aw_t275) (aw_t277) (aw_p16) (aw_t2)) rfl rfl rfl (by decide +kernel) ⟨Nat.le_of_ble_eq_true rfl, Nat.le_of_ble_eq_true rfl⟩) (pu_preV (q0 := 0) (ci := 1) hK hP rfl rfl) rfl rfl hl.1 rfl (lv_room (Nat.le_of_ble_eq_true rfl)) d_M_cast_41 ⟨Nat.zero_le _, Nat.zero_le _⟩) hS (fun H locs hkp hS => ?_)
          have hP := hkp _ _ _ hP
          refine lv_if_ne (tgt := 50) hx hb d_M_cast_44 (by decide) (fun hc44 => ?_) (fun hc44 => ?_)
          · skip
            rw [bI_0] at hc44
            rw [Bool.not_eq_false] at hc44
            obtain ⟨a, ha1, ha2, rfl⟩ := sp_cand_of hct
            obtain ⟨b, hb1, hb2, hb3, hb4, hb5, rfl⟩ := sp_isS_of hc44
            have hga := (hgj a ha1).1
            refine lv_aload_n hx hb d_M_cast_50 rfl (lv_at hl 0 rfl) ?_
            refine va_get (D := (dC, dI)) (ci := 1) (v := .ref q1) (C := R_M) (T := F_M) (N := 9) hx hb hts f_M hown hK hP 0 rfl rfl 8 (by decide) (hts _ (al_m aw_t215)) (fun _ h9 => h9) rfl d_M_cast_51 ?_
            refine lv_iload_n hx hb d_M_cast_54 rfl (lv_at hl 1 rfl) ?_
            refine va_lald hx hb hK hP 1 0 rfl rfl (vp_in_nI (by omega) (by decide)) d_M_cast_55 ?_
            refine wk_l (y := lN (g a)) (by rw [nI_clamp (by omega)]) ?_
            refine lv_lconst (v := lN 0) hx hb d_M_cast_56 rfl ?_
            refine W.lcmp hx hb d_M_cast_57 ?_
            refine lv_if_ne (tgt := 65) hx hb d_M_cast_58 (by decide) (fun hc58 => ?_) (fun hc58 => ?_)
            · skip
              rw [lg_cmp_eq] at hc58
              rw [pk_lEQ (a := g a) (b := 0) (by omega) (by omega)] at hc58
              refine lv_iconst (v := nI 0) hx hb d_M_cast_65 (by decide) ?_
              refine lv_istore (lv' := [(4, .int (nI 0)), (0, .ref h1), (1, .int (nI a)), (2, .long (lN b))]) hx hb d_M_cast_66 hl (by decide) rfl (fun ls hl => ?_)
              refine lv_iload hx hb d_M_cast_68 (lv_at hl 0 rfl) ?_
              refine lv_if_eq (tgt := 89) hx hb d_M_cast_70 (by decide) (fun hc70 => ?_) (fun hc70 => ?_)
              · skip
                rw [← nI_0] at hc70
                rw [nI_eq (a := 0) (b := 0) (by omega) (by omega)] at hc70
                refine lv_aload_n hx hb d_M_cast_89 rfl (lv_at hl 1 rfl) ?_
                refine va_get (D := (dC, dI)) (ci := 1) (v := .ref q1) (C := R_M) (T := F_M) (N := 9) hx hb hts f_M hown hK hP 0 rfl rfl 8 (by decide) (hts _ (al_m aw_t215)) (fun _ h9 => h9) rfl d_M_cast_90 ?_
                refine lv_iload_n hx hb d_M_cast_93 rfl (lv_at hl 2 rfl) ?_
                refine lv_lload_n hx hb d_M_cast_94 rfl (lv_at hl 3 rfl) ?_
                refine va_last hx hb hK hP hD hS 1 0 rfl rfl (vp_in_nI (by omega) (by decide)) d_M_cast_95 (fun H locs hP hD hS => ?_)
                rw [nI_clamp (by omega), gu_eq] at hP hD
                have hP : va_P (dC, dI) classes [(h1, .inr (1, [.long (lN (p * q)), .long (lN (p * q * (p * q))), .long (lN (sp_f p q)), .long (lN (sp_cex p q)), .int (nI bx), .int (nI cl), .int (nI cd), .int (nI rd), .ref q1])), (q1, .inl (cB, 30, .inr (.inl (fun j => lN ((gu g a b) j)))))] H := hP
                have hD : va_D A [(h1, .inr (1, [.long (lN (p * q)), .long (lN (p * q * (p * q))), .long (lN (sp_f p q)), .long (lN (sp_cex p q)), .int (nI bx), .int (nI cl), .int (nI cd), .int (nI rd), .ref q1])), (q1, .inl (cB, 30, .inr (.inl (fun j => lN ((gu g a b) j)))))] := hD
                refine lv_iload hx hb d_M_cast_96 (lv_at hl 0 rfl) ?_
                refine lv_if_eq (tgt := 105) hx hb d_M_cast_98 (by decide) (fun hc98 => ?_) (fun hc98 => ?_)
                · skip
                  rw [← nI_0] at hc98
                  rw [nI_eq (a := 0) (b := 0) (by omega) (by omega)] at hc98
                  refine lv_iconst (v := nI 0) hx hb d_M_cast_105 (by decide) ?_
                  rw [hAe] at hS
                  exact mu_iret hx hb hr (by rw [cs_old hx0 hcl0 hct hc44 ha2 hb3 hc58]; exact hP) hS d_M_cast_106 hlocks ((ct_old hx0 hcl0 hct hc44 ha2 hc58).symm)
                · skip
                  rw [← nI_0] at hc98
                  rw [nI_eq (a := 0) (b := 0) (by omega) (by omega)] at hc98
                  omega
              · skip
                rw [← nI_0] at hc70
                rw [nI_eq (a := 0) (b := 0) (by omega) (by omega)] at hc70
                omega
            · skip
              rw [lg_cmp_eq] at hc58
              rw [pk_lEQ (a := g a) (b := 0) (by omega) (by omega)] at hc58
              refine lv_iconst (v := nI 1) hx hb d_M_cast_61 (by decide) ?_
              refine lv_goto (tgt := 66) hx hb d_M_cast_62 (by decide) ?_
              refine lv_istore (lv' := [(4, .int (nI 1)), (0, .ref h1), (1, .int (nI a)), (2, .long (lN b))]) hx hb d_M_cast_66 hl (by decide) rfl (fun ls hl => ?_)
              refine lv_iload hx hb d_M_cast_68 (lv_at hl 0 rfl) ?_
              refine lv_if_eq (tgt := 89) hx hb d_M_cast_70 (by decide) (fun hc70 => ?_) (fun hc70 => ?_)
              · skip
                rw [← nI_0] at hc70
                rw [nI_eq (a := 1) (b := 0) (by omega) (by omega)] at hc70
                omega
              · skip
                rw [← nI_0] at hc70
                rw [nI_eq (a := 1) (b := 0) (by omega) (by omega)] at hc70
                refine lv_aload_n hx hb d_M_cast_73 rfl (lv_at hl 1 rfl) ?_
                refine pu_i (va_runV (As := []) (rest := []) ⟨hx, hb, hml, hown, hts⟩ (c_M_count l dC dI h1 q1 cB p q bx cl cd rd g (fun j hj0 => Nat.lt_of_lt_of_le (hgj j hj0).1 (by omega))) (cwV 0 hts (al_V (k_M_count) (aw_t316) (aw_t318) (aw_p20) (aw_t2)) rfl rfl rfl (by decide +kernel) ⟨Nat.le_of_ble_eq_true rfl, Nat.le_of_ble_eq_true rfl⟩) (pu_preV (q0 := 0) (ci := 1) hK hP rfl rfl) rfl rfl hl.1 rfl (lv_room (Nat.le_of_ble_eq_true rfl)) d_M_cast_74 ⟨Nat.zero_le _, Nat.zero_le _⟩) hS (fun H locs hkp hS => ?_)
                have hP := hkp _ _ _ hP
                refine lv_aload_n hx hb d_M_cast_77 rfl (lv_at hl 1 rfl) ?_
                refine va_get (D := (dC, dI)) (ci := 1) (v := .int (nI rd)) (C := R_M) (T := F_M) (N := 9) hx hb hts f_M hown hK hP 0 rfl rfl 7 (by decide) (hts _ (al_m aw_t214)) (fun _ h9 => h9) rfl d_M_cast_78 ?_
                refine lv_iconst (v := nI 1) hx hb d_M_cast_81 (by decide) ?_
                refine lv_isub hx hb d_M_cast_82 ?_
                refine wk_i (y := nI (rd - 1)) (pk_sub (by omega)) ?_
                refine lv_icmp_lt (tgt := 89) hx hb d_M_cast_83 (by decide) (fun hc83 => ?_) (fun hc83 => ?_)
                · skip
                  rw [nI_ltI (a := sp_cnt g 30) (b := rd - 1) (by omega) (by omega)] at hc83
                  refine lv_aload_n hx hb d_M_cast_89 rfl (lv_at hl 1 rfl) ?_
                  refine va_get (D := (dC, dI)) (ci := 1) (v := .ref q1) (C := R_M) (T := F_M) (N := 9) hx hb hts f_M hown hK hP 0 rfl rfl 8 (by decide) (hts _ (al_m aw_t215)) (fun _ h9 => h9) rfl d_M_cast_90 ?_
                  refine lv_iload_n hx hb d_M_cast_93 rfl (lv_at hl 2 rfl) ?_
                  refine lv_lload_n hx hb d_M_cast_94 rfl (lv_at hl 3 rfl) ?_
                  refine va_last hx hb hK hP hD hS 1 0 rfl rfl (vp_in_nI (by omega) (by decide)) d_M_cast_95 (fun H locs hP hD hS => ?_)
                  rw [nI_clamp (by omega), gu_eq] at hP hD
                  have hP : va_P (dC, dI) classes [(h1, .inr (1, [.long (lN (p * q)), .long (lN (p * q * (p * q))), .long (lN (sp_f p q)), .long (lN (sp_cex p q)), .int (nI bx), .int (nI cl), .int (nI cd), .int (nI rd), .ref q1])), (q1, .inl (cB, 30, .inr (.inl (fun j => lN ((gu g a b) j)))))] H := hP
                  have hD : va_D A [(h1, .inr (1, [.long (lN (p * q)), .long (lN (p * q * (p * q))), .long (lN (sp_f p q)), .long (lN (sp_cex p q)), .int (nI bx), .int (nI cl), .int (nI cd), .int (nI rd), .ref q1])), (q1, .inl (cB, 30, .inr (.inl (fun j => lN ((gu g a b) j)))))] := hD
                  refine lv_iload hx hb d_M_cast_96 (lv_at hl 0 rfl) ?_
                  refine lv_if_eq (tgt := 105) hx hb d_M_cast_98 (by decide) (fun hc98 => ?_) (fun hc98 => ?_)
                  · skip
                    rw [← nI_0] at hc98
                    rw [nI_eq (a := 1) (b := 0) (by omega) (by omega)] at hc98
                    omega
                  · skip
                    rw [← nI_0] at hc98
                    rw [nI_eq (a := 1) (b := 0) (by omega) (by omega)] at hc98
                    refine lv_iconst (v := nI 1) hx hb d_M_cast_101 (by decide) ?_
                    refine lv_goto (tgt := 106) hx hb d_M_cast_102 (by decide) ?_
                    rw [hAe] at hS
                    exact mu_iret hx hb hr (by rw [cs_new hx0 hcl0 hct hc44 ha2 hb3 hc58 (by omega)]; exact hP) hS d_M_cast_106 hlocks ((ct_new hx0 hcl0 hct hc44 ha2 hc58 (by omega)).symm)
                · skip
                  rw [nI_ltI (a := sp_cnt g 30) (b := rd - 1) (by omega) (by omega)] at hc83
                  refine lv_bipush (v := -5) hx hb d_M_cast_86 (by decide) ?_
                  rw [hAe] at hS
                  exact mu_iret hx hb hr (by rw [cs_full hx0 hcl0 hct hc44 ha2 hc58 (by omega)]; exact hP) hS d_M_cast_88 hlocks ((ct_full hx0 hcl0 hct hc44 ha2 hc58 (by omega)).symm)
          · skip
            rw [bI_0] at hc44
            refine lv_bipush (v := -4) hx hb d_M_cast_47 (by decide) ?_
            rw [hAe] at hS
            exact mu_iret hx hb hr (by rw [show nx_cast p q cx rd cl g x y = g from cs_bad hx0 hcl0 (by simp [hct, hc44])]; exact hP) hS d_M_cast_49 hlocks ((ct_bad hx0 hcl0 (by simp [hct, hc44])).symm)
    · skip
      rw [← nI_0] at hc11
      rw [nI_eq (a := cl) (b := 0) (by omega) (by omega)] at hc11
      have hc1 : cl = 1 := by omega
      refine lv_aload_n hx hb d_M_cast_14 rfl (lv_at hl 0 rfl) ?_
      refine va_get (D := (dC, dI)) (ci := 1) (v := .int (nI bx)) (C := R_M) (T := F_M) (N := 9) hx hb hts f_M hown hK hP 0 rfl rfl 4 (by decide) (hts _ (al_m aw_t211)) (fun _ h9 => h9) rfl d_M_cast_15 ?_
      refine lv_if_eq (tgt := 26) hx hb d_M_cast_18 (by decide) (fun hc18 => ?_) (fun hc18 => ?_)
      · skip
        rw [← nI_0] at hc18
        rw [nI_eq (a := bx) (b := 0) (by omega) (by omega)] at hc18
        omega
      · skip
        rw [← nI_0] at hc18
        rw [nI_eq (a := bx) (b := 0) (by omega) (by omega)] at hc18
        refine lv_bipush (v := -3) hx hb d_M_cast_21 (by decide) ?_
        refine lv_goto (tgt := 28) hx hb d_M_cast_23 (by decide) ?_
        rw [hAe] at hS
        exact mu_iret hx hb hr (by simp only [nx_cast, if_neg hx0, if_pos hc1]; exact hP) hS d_M_cast_28 hlocks (by simp [an_cast, hx0, hc1])
