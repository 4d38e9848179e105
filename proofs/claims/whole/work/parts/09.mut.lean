/-! contracts that change one object and its array -/
abbrev two (a b : Nat) : Nat → Prop := fun q => q = a ∨ q = b
abbrev qmI (v : Int32) (D : va_G) (cl : List vw_C) (ws : va_W) (h q : Nat) : Array Value → State → Outcome → State → Prop := va_Qi (fun (r : Int32) (_ : Unit) => r = v) (fun _ t => va_P D cl ws t.heap) (two h q)
abbrev qmL (v : Int64) (D : va_G) (cl : List vw_C) (ws : va_W) (h q : Nat) : Array Value → State → Outcome → State → Prop := va_Ql (fun (r : Int64) (_ : Unit) => r = v) (fun _ t => va_P D cl ws t.heap) (two h q)
abbrev qmV (D : va_G) (cl : List vw_C) (ws : va_W) (h q : Nat) : Array Value → State → Outcome → State → Prop := va_Qv (fun (_ : Unit) => True) (fun _ t => va_P D cl ws t.heap) (two h q)
theorem mu_D {h q : Nat} {e1 e2 : va_E} (hne : h ≠ q) : va_D (two h q) [(h, e1), (q, e2)] := by
  refine ⟨fun i j p r hi hj hp => ?_, fun k r hk => ?_⟩
  · match i, j with
    | 0, 0 => rfl
    | 1, 1 => rfl
    | 0, 1 => cases hi; cases hj; exact absurd hp hne
    | 1, 0 => cases hi; cases hj; exact absurd hp.symm hne
    | i + 2, _ => cases hi
    | 0, j + 2 => cases hj
    | 1, j + 2 => cases hj
  · match k with
    | 0 => cases hk; exact Or.inl rfl
    | 1 => cases hk; exact Or.inr rfl
    | k + 2 => cases hk
section MU
variable {p : Program} {l : Launch} {e : Env} {R : Room} {s : State} {m : MethodId} {args : Array Value} {below : List Frame} {meth : Method} {c : Code} {H : Heap} {locs : List Loc} {cells slots : Nat} {Q : State → Prop}
variable {pc : Nat} {ls : Array Slot} {rest st0 : List Value} {a : Array Value} {A0 : Nat → Prop} {H0 : Heap} {cc : ByteArray} {D : va_G} {cl : List vw_C} {ws wo : va_W} {h q : Nat}
theorem mu_kept {H H1 : Heap} (hk : ∀ r : Nat, r < H.size → ¬ two h q r → H1[r]? = H[r]?) (ho : ∀ (k : Nat) (r : Nat × va_E), wo[k]? = some r → r.1 ≠ h ∧ r.1 ≠ q) (hO : va_P D cl wo H) : va_P D cl wo H1 :=
  hO.kept (fun k r hr => hk r.1 (hO k r hr).lt (fun z => z.elim (ho k r hr).1 (ho k r hr).2))
theorem mu_i {v : Int32} (hr : va_Run p l e R s m args below meth c H locs cells slots 0 0 (F0 m pc ls st0) rest (qmI v D cl ws h q a) (two h q)) (hS : va_S A0 H0 H locs) (hh : A0 h) (hq : A0 q) (ho : ∀ (k : Nat) (r : Nat × va_E), wo[k]? = some r → r.1 ≠ h ∧ r.1 ≠ q) (hO : va_P D cl wo H)
    (kk : ∀ (H1 : Heap) (locs1 : List Loc), va_P D cl ws H1 → va_P D cl wo H1 → va_S A0 H0 H1 locs1 → W p l e R s m args below meth c H1 locs1 cells slots Q (F0 m (pc + 3) ls (.int v :: rest))) : W p l e R s m args below meth c H locs cells slots Q (F0 m pc ls st0) := by
  refine va_calli hr hS (fun r _ z => z.elim (fun e => e ▸ hh) (fun e => e ▸ hq)) (fun r z => z.elim (fun e => e ▸ hh) (fun e => e ▸ hq)) (fun r u t H1 locs1 ht hvm hw hB hz hk hS => ?_)
  subst hw
  rw [ht] at hB
  exact kk H1 locs1 hB (mu_kept hk ho hO) hS
theorem mu_l {v : Int64} (hr : va_Run p l e R s m args below meth c H locs cells slots 0 0 (F0 m pc ls st0) rest (qmL v D cl ws h q a) (two h q)) (hS : va_S A0 H0 H locs) (hh : A0 h) (hq : A0 q) (ho : ∀ (k : Nat) (r : Nat × va_E), wo[k]? = some r → r.1 ≠ h ∧ r.1 ≠ q) (hO : va_P D cl wo H)
    (kk : ∀ (H1 : Heap) (locs1 : List Loc), va_P D cl ws H1 → va_P D cl wo H1 → va_S A0 H0 H1 locs1 → W p l e R s m args below meth c H1 locs1 cells slots Q (F0 m (pc + 3) ls (.long v :: rest))) : W p l e R s m args below meth c H locs cells slots Q (F0 m pc ls st0) := by
  refine va_calll hr hS (fun r _ z => z.elim (fun e => e ▸ hh) (fun e => e ▸ hq)) (fun r z => z.elim (fun e => e ▸ hh) (fun e => e ▸ hq)) (fun r u t H1 locs1 ht hvm hw hB hz hk hS => ?_)
  subst hw
  rw [ht] at hB
  exact kk H1 locs1 hB (mu_kept hk ho hO) hS
theorem mu_v (hr : va_Run p l e R s m args below meth c H locs cells slots 0 0 (F0 m pc ls st0) rest (qmV D cl ws h q a) (two h q)) (hS : va_S A0 H0 H locs) (hh : A0 h) (hq : A0 q) (ho : ∀ (k : Nat) (r : Nat × va_E), wo[k]? = some r → r.1 ≠ h ∧ r.1 ≠ q) (hO : va_P D cl wo H)
    (kk : ∀ (H1 : Heap) (locs1 : List Loc), va_P D cl ws H1 → va_P D cl wo H1 → va_S A0 H0 H1 locs1 → W p l e R s m args below meth c H1 locs1 cells slots Q (F0 m (pc + 3) ls rest)) : W p l e R s m args below meth c H locs cells slots Q (F0 m pc ls st0) := by
  refine va_callv hr hS (fun r _ z => z.elim (fun e => e ▸ hh) (fun e => e ▸ hq)) (fun r z => z.elim (fun e => e ▸ hh) (fun e => e ▸ hq)) (fun u t H1 locs1 ht hvm hw hB hz hk hS => ?_)
  rw [ht] at hB
  exact kk H1 locs1 hB (mu_kept hk ho hO) hS
theorem mu_iret {v v' : Int32} (hx : p.tables.exec = Jvm.exec) (hb : c.code = cc) (hr : meth.sig.returnType = some .int) (hP : va_P D cl ws H) (hS : va_S (two h q) s.heap H locs) (hdg : decode cc pc = .ok (.ireturn, 1)) (hlocks : meth.locks = false) (hv : v = v') :
    W p l e R s m args below meth c H locs 0 0 (MQ below (qmI v' D cl ws h q) args s 0 0 (two h q)) (F0 m pc ls [.int v]) := by
  subst hv
  exact W.iret hx hb hr (fun t ht hW => ⟨⟨v, (), rfl, rfl, by show va_P D cl ws t.heap; rw [ht]; exact hP⟩, hS.F ht⟩) hS.2.2 hdg hlocks
theorem mu_zret {v v' : Int32} (hx : p.tables.exec = Jvm.exec) (hb : c.code = cc) (hr : meth.sig.returnType = some .boolean) (hn : narrow .boolean (.int v) = .int v) (hP : va_P D cl ws H) (hS : va_S (two h q) s.heap H locs) (hdg : decode cc pc = .ok (.ireturn, 1)) (hlocks : meth.locks = false) (hv : v = v') :
    W p l e R s m args below meth c H locs 0 0 (MQ below (qmI v' D cl ws h q) args s 0 0 (two h q)) (F0 m pc ls [.int v]) := by
  subst hv
  exact W.zret hx hb hr hn (fun t ht hW => ⟨⟨v, (), rfl, rfl, by show va_P D cl ws t.heap; rw [ht]; exact hP⟩, hS.F ht⟩) hS.2.2 hdg hlocks
theorem mu_lret {v v' : Int64} (hx : p.tables.exec = Jvm.exec) (hb : c.code = cc) (hr : meth.sig.returnType = some .long) (hP : va_P D cl ws H) (hS : va_S (two h q) s.heap H locs) (hdg : decode cc pc = .ok (.lreturn, 1)) (hlocks : meth.locks = false) (hv : v = v') :
    W p l e R s m args below meth c H locs 0 0 (MQ below (qmL v' D cl ws h q) args s 0 0 (two h q)) (F0 m pc ls [.long v]) := by
  subst hv
  exact W.lret hx hb hr (fun t ht hW => ⟨⟨v, (), rfl, rfl, by show va_P D cl ws t.heap; rw [ht]; exact hP⟩, hS.F ht⟩) hS.2.2 hdg hlocks
theorem mu_vret (hx : p.tables.exec = Jvm.exec) (hb : c.code = cc) (hr : meth.sig.returnType = none) (hP : va_P D cl ws H) (hS : va_S (two h q) s.heap H locs) (hdg : decode cc pc = .ok (.return_, 1)) (hlocks : meth.locks = false) :
    W p l e R s m args below meth c H locs 0 0 (MQ below (qmV D cl ws h q) args s 0 0 (two h q)) (F0 m pc ls []) :=
  W.vret hx hb hr (fun t ht hW => ⟨⟨(), rfl, trivial, by show va_P D cl ws t.heap; rw [ht]; exact hP⟩, hS.F ht⟩) hS.2.2 hdg hlocks
end MU
