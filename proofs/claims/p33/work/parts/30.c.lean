/-! constructors: worlds that grow -/
abbrev zg_up (G : zc_X) (k n : Nat) : zc_X := (G.1, G.2.1, G.2.2.1, G.2.2.2.1, G.2.2.2.2.1, G.2.2.2.2.2.1, G.2.2.2.2.2.2.1, G.2.2.2.2.2.2.2.1, G.2.2.2.2.2.2.2.2.1, G.2.2.2.2.2.2.2.2.2.1, k, n)
def zb_I (K : zc_K) (G : zc_X) (A : Nat → Prop) (ws : va_W) : Heap → List Loc → Prop := fun H locs => va_P K.2.1 vwCl ws H ∧ va_S A (zg_s G).heap H locs
def zb_Pc (K : zc_K) (sz : Nat) (w : va_W) (av : List Value) : Array Value → State → Prop := va_Pc av (fun U => U.heap.size = sz ∧ va_P K.2.1 vwCl w U.heap ∧ va_K K.2.1 vwCl (zc_ty K.2.2.1) U ∧ ∀ x ∈ lw_nest, va_Nw x U)
def zb_Q (K : zc_K) (sz : Nat) (w : va_W) (F : (Nat → Nat) → va_W) : Array Value → State → Outcome → State → Prop := fun _ st oc t => (∃ q : Nat → Nat, oc = .returned none ∧ va_P K.2.1 vwCl (F q) t.heap ∧ va_D (va_A w sz) (F q)) ∧ va_F (va_A w sz) st t
def zb_M (K : zc_K) (y : MethodName) (cc : ByteArray) (nL : Nat) (rm : Room) (mc ms : Nat) (av : List Value) (w : va_W) (F : (Nat → Nat) → va_W) : Prop :=
  ∀ sz, Met K.1 y (.code y cc nL none :: lw_good) rm (zb_Pc K sz w av) (zb_Q K sz w F) mc ms (va_A w sz)
/-- a constructor's body, running -/
def zb_G (nL : Nat) (own : String) (cc : ByteArray) (rm : Room) (mc ms : Nat) (w : va_W) (F : (Nat → Nat) → va_W) (K : zc_K) (G : zc_X) (A : Nat → Prop) : Prop :=
  zc_B nL own cc G ∧ (zg_M G).sig.returnType = none ∧ (zg_M G).locks = false ∧ zg_R G = rm ∧ va_K K.2.1 vwCl (zc_ty K.2.2.1) (zg_s G) ∧ (∀ x ∈ lw_nest, va_Nw x (zg_s G)) ∧ A = va_A w (zg_s G).heap.size ∧ zg_Q G = MQ (zg_b G) (zb_Q K (zg_s G).heap.size w F) (zg_a G) (zg_s G) mc ms A ∧ (zg_M G).name = "<init>"
theorem zb_one {A : Nat → Prop} {a : Nat} {e : va_E} (h : A a) : va_D A [(a, e)] := by
  refine ⟨fun i j p q hi hj _ => ?_, fun k q hk => ?_⟩
  · have h1 : i < 1 := (List.getElem?_eq_some_iff.mp hi).1
    have h2 : j < 1 := (List.getElem?_eq_some_iff.mp hj).1
    omega
  · have h1 : k < 1 := (List.getElem?_eq_some_iff.mp hk).1
    rw [show k = 0 by omega] at hk
    cases hk
    exact h
theorem zb_start {K : zc_K} {y : MethodName} {cc : ByteArray} {nL mc ms : Nat} {rm : Room} {av : List Value} {h0 : Nat} {e0 : va_E} {F : (Nat → Nat) → va_W} (own : String) (hy : plainFor y = true) (ho : y.cls = own) (hn : (lg_sl av).length ≤ nL) (hi : y.name = "<init>")
    (h : ∀ (G : zc_X) (A : Nat → Prop), zb_G nL own cc rm mc ms [(h0, e0)] F K G A → (∀ q : Nat, (zg_s G).heap.size ≤ q → A q) → va_D A [(h0, e0)] → zc_V nL K (zg_up G 0 0) (zb_I K G A [(h0, e0)]) (lv_args 0 av) 0 []) : zb_M K y cc nL rm mc ms av [(h0, e0)] F := by
  intro sz
  refine zc_ofW (cc := cc) (maxL := nL) (ret := none) hy rfl ?_
  intro p e s m args below meth c s₁ B hml hv
  obtain ⟨rfl, rfl, hP, hK, hZ⟩ := hv
  have hts := atoms_spec (ws := .code y cc nL none :: lw_good) B.pre
  have hown : s.vm.findClass own = some m.cls := by rw [← ho]; exact findClass_of_methodNamed B.named
  have hl := lv_entry av (n := nL) hn
  rw [lg_entry_eq]
  exact h (p, e, rm, s, m, av.toArray, below, meth, c, MQ below (zb_Q K s.heap.size [(h0, e0)] F) av.toArray s mc ms (va_A [(h0, e0)] s.heap.size), 0, 0) (va_A [(h0, e0)] s.heap.size) ⟨⟨B.exec, B.bytes, hml, hown, fun w hw => hts w (List.mem_cons_of_mem _ hw)⟩, B.returns, B.notSynchronized, rfl, hK, hZ, rfl, rfl, ((name_of_methodNamed B.named B.method).1).trans hi⟩ (fun q hq => Or.inr hq) (zb_one (Or.inl ⟨0, e0, rfl⟩)) s.heap [] _ ⟨hP, va_S.rf⟩ hl
section ZB
variable {nL mc ms k n : Nat} {own : String} {cc : ByteArray} {rm : Room} {w : va_W} {F : (Nat → Nat) → va_W} {K : zc_K} {G : zc_X} {A : Nat → Prop} {ws ws' : va_W} {lv : List (Nat × Value)} {pc : Nat} {st : List Value}
theorem zb_objInit (hG : zb_G nL own cc rm mc ms w F K G A) {idx a : Nat} (hd : decode cc pc = .ok (.invokespecial idx, 3)) (hw : Cond.methodLink own idx objectInit ∈ lw_good) (hi : Cond.instanceMethod objectInit ∈ lw_good) (hc : Cond.code objectInit ⟨#[0xb1]⟩ 1 none ∈ lw_good) (h1 : 1 ≤ rm.frames) (h2 : (st.map fun v => v.category).sum + 12 ≤ rm.locals) (kk : zc_V nL K (zg_up G k n) (zb_I K G A ws) lv (pc + 3) st) : zc_V nL K (zg_up G k n) (zb_I K G A ws) lv pc (.ref a :: st) := by
  intro H locs ls hI hl
  obtain ⟨hB, hR, hlk, hRm, hK, hN, hA, hQ, hnm⟩ := hG
  refine W.objInit hB.1 hB.2.1 hB.2.2.2.1 (hB.2.2.2.2 _ hw) (hB.2.2.2.2 _ hi) (hB.2.2.2.2 _ hc) rfl (by rw [hB.2.2.1]; exact hl.1) rfl hd (by rw [hRm]; exact h1) (by rw [hRm]; show 2 * 0 + _ + 12 ≤ _; omega) ?_
  exact kk H locs ls hI hl
theorem zb_new (hG : zb_G nL own cc rm mc ms w F K G A) (hA : ∀ q : Nat, (zg_s G).heap.size ≤ q → A q) {idx ci N : Nat} {C : String} {T : u_T} {ty : Nat → FieldType} {fs : List Value} (hd : decode cc pc = .ok (.new idx, 3)) (hD : va_D A ws) (hin : ∀ x ∈ u_ws C T N, x ∈ lw_good) (hty : ∀ k, k < N → parseFieldDescriptor (T k).2.2.1 = some (ty k)) (hcl : Cond.classLink own idx C ∈ lw_good) (hins : Cond.instantiable C N ∈ lw_good) (hini : Cond.initialized C ∈ lw_good) (hc : vwCl[ci]? = some (C, T, N)) (hfs : ∀ j, j < N → defaultValue (ty j) = vp_V fs j) (h1 : k + 1 ≤ rm.cells) (h2 : n + N ≤ rm.slots)
    (kk : ∀ q : Nat, va_D A (ws ++ [(q, .inr (ci, fs))]) → zc_V nL K (zg_up G (k + 1) (n + N)) (zb_I K G A (ws ++ [(q, .inr (ci, fs))])) lv (pc + 3) (.ref q :: st)) : zc_V nL K (zg_up G k n) (zb_I K G A ws) lv pc st := by
  intro H locs ls hI hl
  obtain ⟨hB, hR, hlk, hRm, hK, hN, hAe, hQ, hnm⟩ := hG
  exact va_new hB.1 hB.2.1 hB.2.2.2.2 hin ty hty hB.2.2.2.1 (hB.2.2.2.2 _ hcl) (hB.2.2.2.2 _ hins) (hB.2.2.2.2 _ hini) hK hI.1 hD hI.2 hA hc hfs (by rw [hRm]; exact h1) (by rw [hRm]; exact h2) hd (fun q H1 hP hD hS => kk q hD H1 locs ls ⟨hP, hS⟩ hl)
theorem zb_newa (hG : zb_G nL own cc rm mc ms w F K G A) (hA : ∀ q : Nat, (zg_s G).heap.size ≤ q → A q) {x : Int32} {N t : Nat} {atype : ArrayType} {ty : FieldType} {a0 : vp_A} (hd : decode cc pc = .ok (.newarray atype, 2)) (hD : va_D A ws) (hw : Cond.arrayClass (newarray.typeOf atype) ∈ lw_good) (hty : newarray.typeOf atype = ty) (ht : (zc_ty K.2.2.1)[t]? = some (K.2.2.1 t, ty)) (hp : ∀ (U : State) (cA : ClassId), va_RA U cA ty → U.vm.findClass ("[" ++ ty.toString) = some cA) (ha : ∀ cA : ClassId, vp_cell cA a0 = arrV cA N (fun _ => defaultValue ty)) (hn0 : x.toInt = N) (hby : N * componentBytes ty ≤ 536870912) (h1 : k + 1 ≤ rm.cells) (h2 : n + N ≤ rm.slots)
    (kk : ∀ q : Nat, va_D A (ws ++ [(q, .inl (K.2.2.1 t, a0))]) → zc_V nL K (zg_up G (k + 1) (n + N)) (zb_I K G A (ws ++ [(q, .inl (K.2.2.1 t, a0))])) lv (pc + 2) (.ref q :: st)) : zc_V nL K (zg_up G k n) (zb_I K G A ws) lv pc (.int x :: st) := by
  intro H locs ls hI hl
  obtain ⟨hB, hR, hlk, hRm, hK, hN, hAe, hQ, hnm⟩ := hG
  refine va_newa hB.1 hB.2.1 (hB.2.2.2.2 _ hw) hty hK hI.1 hD hI.2 hA ha (by rw [zn_lt, Int32.toInt_zero]; omega) (by rw [← Int32.toNat_toInt]; omega) hby (by rw [hRm]; exact h1) (by rw [hRm]; exact h2) hd (fun q cA H1 hK2 hP hD2 hS => ?_)
  have e1 := hp _ _ (hK.2 t _ ht).2
  have e2 := hp _ _ (hK2.2 3 (cA, ty) rfl).2
  have e3 : cA = K.2.2.1 t := Option.some.inj (e2.symm.trans e1)
  subst e3
  exact kk q hD2 H1 locs ls ⟨hP, hS⟩ hl
theorem zb_putF (hG : zb_G nL own cc rm mc ms w F K G A) {idx ci N a : Nat} {C : String} {T : u_T} {ty0 : Nat → FieldType} {fs : List Value} {v : Value} {ty : FieldType} (q0 j : Nat) (hd : decode cc pc = .ok (.putfield idx, 3)) (hD : va_D A ws) (he : ws[q0]? = some (a, .inr (ci, fs))) (hc : vwCl[ci]? = some (C, T, N)) (hj : j < N) (hin : ∀ x ∈ u_ws C T N, x ∈ lw_good) (hty : ∀ k, k < N → parseFieldDescriptor (T k).2.2.1 = some (ty0 k)) (hnn : ∀ a, a < N → ∀ b, b < N → a ≠ b → (T a).2.1 ≠ (T b).2.1) (hw : Cond.fieldLink own idx (T j).1 (T j).2.1 (T j).2.2.1 ∈ lw_good) (hfin : (T j).2.2.2 = true) (hdecl : (T j).1 = own) (hpd : parseFieldDescriptor (T j).2.2.1 = some ty) (hn : narrow ty v = v) (hfit : fits ty v = true) (hl0 : j < fs.length) (hws : ws.set q0 (a, .inr (ci, fs.set j v)) = ws')
    (kk : va_D A ws' → zc_V nL K (zg_up G k n) (zb_I K G A ws') lv (pc + 3) st) : zc_V nL K (zg_up G k n) (zb_I K G A ws) lv pc (v :: .ref a :: st) := by
  intro H locs ls hI hl
  obtain ⟨hB, hR, hlk, hRm, hK, hN, hAe, hQ, hnm⟩ := hG
  subst hws
  exact va_putF hB.1 hB.2.1 hB.2.2.2.2 hin ty0 hty hnn hB.2.2.2.1 hK hI.1 hD hI.2 q0 he hc j hj (hB.2.2.2.2 _ hw) (fun _ h9 => h9) hfin hnm hdecl hpd hn hfit hl0 hd (fun H1 locs1 hP hD hS => kk hD H1 locs1 ls ⟨hP, hS⟩ hl)
theorem zb_iast (hG : zb_G nL own cc rm mc ms w F K G A) {N a : Nat} {f : Nat → Int32} {i x : Int32} {I X : Int} (q0 : Nat) (hd : decode cc pc = .ok (.iastore, 1)) (hD : va_D A ws) (he : ws[q0]? = some (a, .inl (K.2.2.1 0, N, .inl f))) (hi : i.toInt = I) (h1 : 0 ≤ I) (h2 : I < N) (hx : x.toInt = X) (hws : ws.set q0 (a, .inl (K.2.2.1 0, N, .inl (upd f I.toNat (Int32.ofInt X)))) = ws')
    (kk : va_D A ws' → zc_V nL K (zg_up G k n) (zb_I K G A ws') lv (pc + 1) st) : zc_V nL K (zg_up G k n) (zb_I K G A ws) lv pc (.int x :: .int i :: .ref a :: st) := by
  intro H locs ls hI hl
  obtain ⟨hB, hR, hlk, hRm, hK, hN, hAe, hQ, hnm⟩ := hG
  subst hws
  have ex : x = Int32.ofInt X := by rw [← hx, Int32.ofInt_toInt]
  have ei : I.toNat = i.toNatClampNeg := by rw [← hi]; rfl
  rw [ei, ← ex] at kk
  exact va_iast hB.1 hB.2.1 hK hI.1 hD hI.2 q0 0 he rfl (zn_in (by omega) (by omega)) hd (fun H1 locs1 hP hD hS => kk hD H1 locs1 ls ⟨hP, hS⟩ hl)
theorem zb_callI (hG : zb_G nL own cc rm mc ms w F K G A) (hA : ∀ q : Nat, (zg_s G).heap.size ≤ q → A q) {idx nn nL' mc' ms' a : Nat} {host : String} {y : MethodName} {cc' : ByteArray} {rm' : Room} {e0 : va_E} {F' : (Nat → Nat) → va_W} {As rest : List Value} {wr : va_W} (q0 : Nat) (isR : List Nat) (hd : decode cc pc = .ok (.invokespecial idx, 3)) (hD : va_D A ws) (hcode : Cond.code y cc' nL' none ∈ lw_good) (hini : Cond.initialized y.cls ∈ lw_good) (hcl : y.cls ≠ "java/lang/invoke/MethodHandle" ∧ y.cls ≠ "java/lang/invoke/VarHandle" ∧ (parseMethodDescriptor y.desc).map (fun d => d.parameters.length) = some nn) (hlink : Cond.methodLinkNest own idx y host ∈ lw_nest) (hinm : Cond.instanceMethod y ∈ lw_good) (hyn : y.name = "<init>")
    (hM : zb_M K y cc' nL' rm' mc' ms' (.ref a :: As) [(a, e0)] F') (hn : As.length = nn) (hst : st = As.reverse ++ .ref a :: rest) (hwd : (rest.map fun v => v.category).sum ≤ 8) (hrm : rm'.frames + 1 ≤ rm.frames ∧ 8 + (nL' + 11) + rm'.locals ≤ rm.locals ∧ rm'.cells = mc' ∧ rm'.slots = ms') (h1 : k + mc' ≤ rm.cells) (h2 : n + ms' ≤ rm.slots) (he : ws[q0]? = some (a, e0)) (hR : isR.map (fun i => ws[i]?) = wr.map some) (hnd : va_nd isR = true) (hdis : ∀ i ∈ isR, i ∉ [q0])
    (kk : ∀ q : Nat → Nat, va_D A (wr ++ F' q) → zc_V nL K (zg_up G (k + mc') (n + ms')) (zb_I K G A (wr ++ F' q)) lv (pc + 3) rest) : zc_V nL K (zg_up G k n) (zb_I K G A ws) lv pc st := by
  intro H locs ls hI hl
  obtain ⟨hB, hRt, hlk, hRm, hK, hN, hAe, hQ, hnm⟩ := hG
  subst hst
  have hC : [q0].map (fun i => ws[i]?) = [(a, e0)].map some := by simp [he]
  have hPc : va_P K.2.1 vwCl [(a, e0)] H := hI.1.sub [q0] (by simp [he])
  have hFc := va_free (wc := [(a, e0)]) hD hI.2 hA [q0] hC
  have hp : PreS (zg_s G) H (zb_Pc K H.size [(a, e0)] (.ref a :: As)) (.ref a :: As) := ⟨fun b U g mk q => by
      obtain ⟨e, hz, hP, hK, hZ⟩ := q
      exact ⟨e, hz, hP, va_K.moved (u := U) (U := U.calling g mk b) (Vm.Alike.refl U.vm) hK, fun x hx => zc_Nsame (u := U) (U := U.calling g mk b) hx rfl (hZ x hx)⟩, fun U hU hW => ⟨rfl, by rw [hU], by rw [hU]; exact hPc, va_K.moved hW.alike hK, fun x hx => zc_Nwarm hx hW (hN x hx)⟩⟩
  have hroom : rm'.frames + 1 ≤ (zg_R G).frames ∧ 8 + (nL' + 11) + rm'.locals ≤ (zg_R G).locals := by rw [hRm]; exact ⟨hrm.1, hrm.2.1⟩
  have hS : CallFix (zg_p G) (zg_m G) (zg_c G) cc nL (zg_s G) (zg_a G) lw_good own := ⟨hB.1, hB.2.1, hB.2.2.1, hB.2.2.2.1, hB.2.2.2.2⟩
  have hr := va_runIN (l := K.1) (e := zg_e G) (R := zg_R G) (below := zg_b G) (meth := zg_M G) (H := H) (locs := locs) (cells := k) (slots := n) (As := As) (rest := rest) (b := a) (host := host) (n := nn) (g := F0 (zg_m G) pc ls (As.reverse ++ .ref a :: rest)) hS (hM H.size) ⟨va_cnB nn hB.2.2.2.2 (zc_gin hcode) rfl hrm.2.2.1 hrm.2.2.2 (hN _ hlink) (hB.2.2.2.2 _ hini) hcl hroom, hyn, hB.2.2.2.2 _ hinm⟩ hp rfl hn hl.1 rfl (lv_room hwd) hd ⟨by rw [hRm]; exact h1, by rw [hRm]; exact h2⟩
  intro T hT X
  obtain ⟨v, st₀, t, T', L, hh0, X', hL, e1, e2, ⟨⟨q, hv, hP1, hD1⟩, hz, hk⟩, sts⟩ := hr T hT X
  cases hv
  rw [hh0] at hz hk
  obtain ⟨hP2, hD2⟩ := va_join (wr := wr) (w1 := F' q) hI.1 hD [q0] isR hC hR hnd hdis (H1 := T'.heap) (fun x a1 a2 => by rw [e1]; exact hk x a1 a2) hFc (by rw [e1]; exact hP1) hD1
  obtain ⟨t2, a1, b1⟩ := kk q hD2 T'.heap (locs ++ L) ls ⟨hP2, Nat.le_trans hI.2.1 (by rw [e1]; exact hz), fun x a1 a2 => by rw [e1, hk x (Nat.lt_of_lt_of_le a1 hI.2.1) (fun z => a2 (hFc x z))]; exact hI.2.2.1 x a1 a2, fun x hx => by
      rcases List.mem_append.mp hx with h | h
      · exact hI.2.2.2 x h
      · exact hFc _ (hL x h)⟩ hl T' rfl X'
  exact ⟨t2, sts t2 a1, b1⟩
theorem zb_vret (hG : zb_G nL own cc rm mc ms w F K G A) (hd : decode cc pc = .ok (.return_, 1)) (hD : va_D A ws) (q : Nat → Nat) (is : List Nat) (hs : is.filterMap (fun i => ws[i]?) = F q) (hs2 : is.map (fun i => ws[i]?) = (F q).map some) (hnd : va_nd is = true) : zc_V nL K (zg_up G mc ms) (zb_I K G A ws) lv pc [] := by
  intro H locs ls hI hl
  obtain ⟨hB, hR, hlk, hRm, hK, hN, hAe, hQ, hnm⟩ := hG
  subst hAe
  show W _ _ _ _ _ _ _ _ _ _ H locs mc ms (zg_Q G) _
  rw [hQ]
  exact W.vret hB.1 hB.2.1 hR (fun t ht hW => ⟨⟨q, rfl, by rw [ht]; exact hI.1.sub is hs, hD.sub is hnd hs2⟩, hI.2.F ht⟩) hI.2.2.2 hd hlk
end ZB
theorem zb_raI (U : State) (cA : ClassId) (h : va_RA U cA .int) : U.vm.findClass ("[" ++ FieldType.int.toString) = some cA := h
theorem zb_raZ (U : State) (cA : ClassId) (h : va_RA U cA .boolean) : U.vm.findClass ("[" ++ FieldType.boolean.toString) = some cA := h
theorem zb_raJ (U : State) (cA : ClassId) (h : va_RA U cA .long) : U.vm.findClass ("[" ++ FieldType.long.toString) = some cA := h
