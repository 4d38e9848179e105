/-! words: all good words of the tables, one list for every method -/
def al_w : List Cond := lw_tbl.filter goodWord
theorem al_t {w : Cond} (i : Nat) (h : tables_1[i]? = some w) (g : goodWord w = true) : w ∈ al_w :=
  List.mem_filter.mpr ⟨List.mem_append_right _ (List.mem_of_getElem? h), g⟩
theorem al_p {w : Cond} (i : Nat) (h : (k2_sels lw_privs)[i]? = some w) (g : goodWord w = true) : w ∈ al_w :=
  List.mem_filter.mpr ⟨List.mem_append_left _ (List.mem_of_getElem? h), g⟩
theorem al_m {w0 w : Cond} (h : w ∈ al_w) : w ∈ w0 :: al_w := List.mem_cons_of_mem _ h
theorem al_g {w0 w : Cond} (h : w ∈ al_w) : w ∈ w0 :: al_w ∧ ((w.onTables && w.keeps) = true ∨ ∃ ty, w = .arrayClass ty) :=
  ⟨List.mem_cons_of_mem _ h, good_of_word (List.mem_filter.mp h).2⟩
theorem al_good {w0 w1 : Cond} (h : w1 ∈ al_w) : GoodIn (w0 :: al_w) (w1 :: al_w) := by
  intro w hw
  rcases List.mem_cons.mp hw with rfl | hw
  · exact al_g h
  · exact al_g hw
theorem al_V {w0 : Cond} {own C : String} {idx n : Nat} {y : MethodName} {cc : ByteArray} {ret : Option FieldType} (h0 : Cond.code y cc n ret ∈ al_w) (h1 : Cond.methodLink own idx y ∈ al_w) (h2 : Cond.instanceMethod y ∈ al_w) (h3 : Cond.selects C y y ∈ al_w) (h4 : Cond.initialized C ∈ al_w) :
    GoodIn (w0 :: al_w) (wsV own idx C y (Cond.code y cc n ret :: al_w)) := by
  intro w hw
  unfold wsV at hw
  rcases List.mem_append.mp hw with hw | hw
  · simp only [List.mem_cons, List.not_mem_nil, or_false] at hw
    rcases hw with rfl | rfl | rfl | rfl
    · exact al_g h1
    · exact al_g h2
    · exact al_g h3
    · exact al_g h4
  · exact al_good h0 w hw
theorem al_S {w0 : Cond} {own : String} {idx n : Nat} {y : MethodName} {cc : ByteArray} {ret : Option FieldType} (h0 : Cond.code y cc n ret ∈ al_w) (h1 : Cond.methodLink own idx y ∈ al_w) (h2 : Cond.static y ∈ al_w) (h4 : Cond.initialized y.cls ∈ al_w) :
    GoodIn (w0 :: al_w) (va_wsS own idx y (Cond.code y cc n ret :: al_w)) := by
  intro w hw
  unfold va_wsS at hw
  rcases List.mem_append.mp hw with hw | hw
  · simp only [List.mem_cons, List.not_mem_nil, or_false] at hw
    rcases hw with rfl | rfl | rfl
    · exact al_g h1
    · exact al_g h2
    · exact al_g h4
  · exact al_good h0 w hw
/-! booleans, ballots -/
def bI (b : Bool) : Int32 := if b = true then 1 else 0
theorem bI_0 {b : Bool} : bI b = 0 ↔ b = false := by cases b <;> decide
theorem bI_t {b : Bool} (h : b = true) : bI b = nI 1 := by subst h; decide
theorem bI_f {b : Bool} (h : b = false) : bI b = nI 0 := by subst h; decide
theorem nb_bI {b : Bool} : narrow .boolean (.int (bI b)) = .int (bI b) := by cases b <;> decide
def gu (g : Nat → Nat) (k c : Nat) : Nat → Nat := fun j => if j = k then c else g j
theorem gu_eq {g : Nat → Nat} {k c : Nat} : vp_updL (fun j => lN (g j)) k (lN c) = fun j => lN (gu g k c j) := by
  funext j
  unfold vp_updL gu
  split <;> rfl
theorem lN_ne0 {n : Nat} (h0 : 0 < n) (h : n < 2 ^ 63) : ¬ lN n = 0 := by
  intro q
  have a := pk_lT h
  rw [q, Int64.toInt_zero] at a
  omega
/-! a contract that changes nothing -/
abbrev qL (v : Int64) : Array Value → State → Outcome → State → Prop := va_Ql (fun (r : Int64) (_ : Unit) => r = v) (fun _ _ => True) (fun _ => False)
abbrev qI (v : Int32) : Array Value → State → Outcome → State → Prop := va_Qi (fun (r : Int32) (_ : Unit) => r = v) (fun _ _ => True) (fun _ => False)
section PU
variable {p : Program} {l : Launch} {e : Env} {R : Room} {s : State} {m : MethodId} {args : Array Value} {below : List Frame} {meth : Method} {c : Code} {H : Heap} {locs : List Loc} {cells slots : Nat} {Q : State → Prop}
variable {pc : Nat} {ls : Array Slot} {rest st0 : List Value} {a : Array Value} {A0 : Nat → Prop} {H0 : Heap} {cc : ByteArray}
theorem wk_i {x y : Int32} (h : x = y) (k : W p l e R s m args below meth c H locs cells slots Q (F0 m pc ls (.int y :: rest))) : W p l e R s m args below meth c H locs cells slots Q (F0 m pc ls (.int x :: rest)) := h ▸ k
theorem wk_l {x y : Int64} (h : x = y) (k : W p l e R s m args below meth c H locs cells slots Q (F0 m pc ls (.long y :: rest))) : W p l e R s m args below meth c H locs cells slots Q (F0 m pc ls (.long x :: rest)) := h ▸ k
theorem pu_kept {H H1 : Heap} (hk : ∀ q : Nat, q < H.size → ¬ (fun _ : Nat => False) q → H1[q]? = H[q]?) (D : va_G) (cl : List vw_C) (ws : va_W) (hP : va_P D cl ws H) : va_P D cl ws H1 :=
  hP.kept (fun k q hq => hk q.1 (hP k q hq).lt (fun h => h))
theorem pu_l {v : Int64} (hr : va_Run p l e R s m args below meth c H locs cells slots 0 0 (F0 m pc ls st0) rest (qL v a) (fun _ => False)) (hS : va_S A0 H0 H locs)
    (kk : ∀ (H1 : Heap) (locs1 : List Loc), (∀ (D : va_G) (cl : List vw_C) (ws : va_W), va_P D cl ws H → va_P D cl ws H1) → va_S A0 H0 H1 locs1 → W p l e R s m args below meth c H1 locs1 cells slots Q (F0 m (pc + 3) ls (.long v :: rest))) : W p l e R s m args below meth c H locs cells slots Q (F0 m pc ls st0) := by
  refine va_calll hr hS (fun q _ h => h.elim) (fun q h => h.elim) (fun r u t H1 locs1 ht hvm hw hB hz hk hS => ?_)
  subst hw
  exact kk H1 locs1 (pu_kept hk) hS
theorem pu_i {v : Int32} (hr : va_Run p l e R s m args below meth c H locs cells slots 0 0 (F0 m pc ls st0) rest (qI v a) (fun _ => False)) (hS : va_S A0 H0 H locs)
    (kk : ∀ (H1 : Heap) (locs1 : List Loc), (∀ (D : va_G) (cl : List vw_C) (ws : va_W), va_P D cl ws H → va_P D cl ws H1) → va_S A0 H0 H1 locs1 → W p l e R s m args below meth c H1 locs1 cells slots Q (F0 m (pc + 3) ls (.int v :: rest))) : W p l e R s m args below meth c H locs cells slots Q (F0 m pc ls st0) := by
  refine va_calli hr hS (fun q _ h => h.elim) (fun q h => h.elim) (fun r u t H1 locs1 ht hvm hw hB hz hk hS => ?_)
  subst hw
  exact kk H1 locs1 (pu_kept hk) hS
theorem pu_lret {v v' : Int64} (hx : p.tables.exec = Jvm.exec) (hb : c.code = cc) (hr : meth.sig.returnType = some .long) (hS : va_S (fun _ => False) s.heap H locs) (hdg : decode cc pc = .ok (.lreturn, 1)) (hlocks : meth.locks = false) (h : v = v') :
    W p l e R s m args below meth c H locs 0 0 (MQ below (qL v') args s 0 0 (fun _ => False)) (F0 m pc ls [.long v]) := by
  subst h
  exact W.lret hx hb hr (fun t ht hW => ⟨⟨v, (), rfl, rfl, trivial⟩, hS.F ht⟩) hS.2.2 hdg hlocks
theorem pu_iret {v v' : Int32} (hx : p.tables.exec = Jvm.exec) (hb : c.code = cc) (hr : meth.sig.returnType = some .int) (hS : va_S (fun _ => False) s.heap H locs) (hdg : decode cc pc = .ok (.ireturn, 1)) (hlocks : meth.locks = false) (h : v = v') :
    W p l e R s m args below meth c H locs 0 0 (MQ below (qI v') args s 0 0 (fun _ => False)) (F0 m pc ls [.int v]) := by
  subst h
  exact W.iret hx hb hr (fun t ht hW => ⟨⟨v, (), rfl, rfl, trivial⟩, hS.F ht⟩) hS.2.2 hdg hlocks
theorem pu_zret {v v' : Int32} (hx : p.tables.exec = Jvm.exec) (hb : c.code = cc) (hr : meth.sig.returnType = some .boolean) (hn : narrow .boolean (.int v) = .int v) (hS : va_S (fun _ => False) s.heap H locs) (hdg : decode cc pc = .ok (.ireturn, 1)) (hlocks : meth.locks = false) (h : v = v') :
    W p l e R s m args below meth c H locs 0 0 (MQ below (qI v') args s 0 0 (fun _ => False)) (F0 m pc ls [.int v]) := by
  subst h
  exact W.zret hx hb hr hn (fun t ht hW => ⟨⟨v, (), rfl, rfl, trivial⟩, hS.F ht⟩) hS.2.2 hdg hlocks
theorem pu_preS {As : List Value} : PreS s H (va_Pc As (fun _ => True)) As := ⟨fun _ _ _ _ q => q, fun _ _ _ => ⟨rfl, trivial⟩⟩
theorem pu_preV {D : va_G} {cl : List vw_C} {tys : List (ClassId × FieldType)} {ws : va_W} {b q0 ci : Nat} {fs As : List Value} {C : String} {T : u_T} {N : Nat} (hK : va_K D cl tys s) (hP : va_P D cl ws H) (hc : cl[ci]? = some (C, T, N)) (he : ws[q0]? = some (b, .inr (ci, fs))) :
    PreV s H C b (va_Pc (.ref b :: As) (fun U => va_P D cl ws U.heap ∧ va_K D cl tys U)) As :=
  ⟨fun a U g mk q => ⟨q.1, q.2.1, va_K.moved (u := U) (U := U.calling g mk a) (Vm.Alike.refl U.vm) q.2.2⟩, va_recv hK hP hc he, fun U hU hW => ⟨rfl, by rw [hU]; exact hP, va_K.moved hW.alike hK⟩⟩
end PU
theorem ii_1 (n : Nat) : nI n + Int32.ofInt 1 = nI (n + 1) := by rw [show Int32.ofInt 1 = nI 1 from by decide, nI_add]
theorem ii_5 (n : Nat) : nI n + Int32.ofInt 5 = nI (n + 5) := by rw [show Int32.ofInt 5 = nI 5 from by decide, nI_add]
