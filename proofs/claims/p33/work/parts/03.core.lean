/-! THE CORE: a fixed world of cells as a table of shapes, a judgement zc_V over (heap picture, locals, pc, stack), a row an instruction -/
def lw_good : List Cond := lw_tbl.filter goodWord
def zc_isN : Cond → Bool
  | .fieldLinkNest _ _ _ _ _ _ => true
  | .methodLinkNest _ _ _ _ => true
  | _ => false
def lw_nest : List Cond := lw_tbl.filter zc_isN
theorem zc_gd {w : Cond} (i : Nat) (h : lw_tbl[i]? = some w) (hg : goodWord w = true) : w ∈ lw_good := List.mem_filter.mpr ⟨List.mem_of_getElem? h, hg⟩
theorem zc_nd {w : Cond} (i : Nat) (h : lw_tbl[i]? = some w) (hg : zc_isN w = true) : w ∈ lw_nest := List.mem_filter.mpr ⟨List.mem_of_getElem? h, hg⟩
theorem zc_Nwarm {w : Cond} (h : w ∈ lw_nest) {s U : State} (hW : s.WarmedH U.vm) (hZ : va_Nw w s) : va_Nw w U := by
  have h2 := (List.mem_filter.mp h).2
  cases w with
  | fieldLinkNest a i b n d g => exact va_Nw.warmF hW hZ
  | methodLinkNest a i x g => exact va_Nw.warmM hW hZ
  | _ => simp [zc_isN] at h2
theorem zc_Nuse {w : Cond} (h : w ∈ lw_nest) {A : Array Value} {U : State} (hZ : va_Nw w U) : w.before A U = true := by
  have h2 := (List.mem_filter.mp h).2
  cases w with
  | fieldLinkNest a i b n d g => exact va_Nw.use rfl hZ
  | methodLinkNest a i x g => exact va_Nw.use rfl hZ
  | _ => simp [zc_isN] at h2
theorem zc_Nof {w : Cond} (h : w ∈ lw_nest) {A : Array Value} {U : State} (hZ : w.before A U = true) : va_Nw w U := by
  have h2 := (List.mem_filter.mp h).2
  cases w with
  | fieldLinkNest a i b n d g => exact va_Nw.of rfl hZ
  | methodLinkNest a i x g => exact va_Nw.of rfl hZ
  | _ => simp [zc_isN] at h2
theorem zc_Nsame {w : Cond} (h : w ∈ lw_nest) {u U : State} (hv : u.vm = U.vm) (hZ : va_Nw w u) : va_Nw w U := by
  have h2 := (List.mem_filter.mp h).2
  cases w with
  | fieldLinkNest a i b n d g => exact va_Nw.same rfl hv hZ
  | methodLinkNest a i x g => exact va_Nw.same rfl hv hZ
  | _ => simp [zc_isN] at h2
/-- a state of the world: ints and longs by cell and place -/
abbrev zc_S : Type := (Nat → Nat → Int32) × (Nat → Nat → Int64)
/-- a cell's shape: an object (class number, a place a field: some cell, or an int), or an array (type number, length, of longs?) -/
abbrev zc_H : Type := (Nat × List (Option Nat)) ⊕ (Nat × Nat × Bool)
/-- launch, classes, array classes, addresses of the world's cells, addresses of the constants -/
abbrev zc_K : Type := Launch × va_G × (Nat → ClassId) × (Nat → Nat) × (Nat → Nat)
/-- a running method -/
abbrev zc_X : Type := Program × Env × Room × State × MethodId × Array Value × List Frame × Method × Code × (State → Prop) × Nat × Nat
def zc_E (c : Nat → ClassId) (a : Nat → Nat) (σ : zc_S) (k : Nat) : zc_H → va_E
  | .inl q => .inr (q.1, q.2.mapIdx (fun j f => match f with | some r => Value.ref (a r) | none => .int (σ.1 k j)))
  | .inr (t, n, false) => .inl (c t, n, .inl (σ.1 k))
  | .inr (t, n, true) => .inl (c t, n, .inr (.inl (σ.2 k)))
def zc_W (sh : List zc_H) (c : Nat → ClassId) (a : Nat → Nat) (σ : zc_S) : va_W := sh.mapIdx (fun k h => (a k, zc_E c a σ k h))
theorem zc_at {sh : List zc_H} {c : Nat → ClassId} {a : Nat → Nat} {σ : zc_S} {k : Nat} {h : zc_H} (hk : sh[k]? = some h) : (zc_W sh c a σ)[k]? = some (a k, zc_E c a σ k h) := by
  simp only [zc_W, List.getElem?_mapIdx, hk, Option.map_some]
theorem zc_at' {sh : List zc_H} {c : Nat → ClassId} {a : Nat → Nat} {σ : zc_S} {k : Nat} {q : Nat × va_E} (hq : (zc_W sh c a σ)[k]? = some q) : ∃ h, sh[k]? = some h ∧ q = (a k, zc_E c a σ k h) := by
  simp only [zc_W, List.getElem?_mapIdx] at hq
  cases hs : sh[k]? with
  | none => rw [hs] at hq; cases hq
  | some h => rw [hs] at hq; exact ⟨h, rfl, (Option.some.inj hq).symm⟩
/-- one int changes -/
def zc_u (σ : zc_S) (k j : Nat) (v : Int32) : zc_S := (fun k' j' => if k' = k ∧ j' = j then v else σ.1 k' j', σ.2)
/-- one long changes -/
def zc_ul (σ : zc_S) (k j : Nat) (v : Int64) : zc_S := (σ.1, fun k' j' => if k' = k ∧ j' = j then v else σ.2 k' j')
theorem zc_u_at (σ : zc_S) (k j : Nat) (v : Int32) : (zc_u σ k j v).1 k = upd (σ.1 k) j v := by
  funext i
  simp [zc_u, upd]
theorem zc_u_ne (σ : zc_S) (k j : Nat) (v : Int32) {k' : Nat} (h : k' ≠ k) : (zc_u σ k j v).1 k' = σ.1 k' := by
  funext i
  simp [zc_u, h]
theorem zc_ul_at (σ : zc_S) (k j : Nat) (v : Int64) : (zc_ul σ k j v).2 k = vp_updL (σ.2 k) j v := by
  funext i
  simp [zc_ul, vp_updL]
theorem zc_ul_ne (σ : zc_S) (k j : Nat) (v : Int64) {k' : Nat} (h : k' ≠ k) : (zc_ul σ k j v).2 k' = σ.2 k' := by
  funext i
  simp [zc_ul, h]
theorem zc_E_cong {c : Nat → ClassId} {a : Nat → Nat} {σ τ : zc_S} {k : Nat} (h1 : σ.1 k = τ.1 k) (h2 : σ.2 k = τ.2 k) (h : zc_H) : zc_E c a σ k h = zc_E c a τ k h := by
  rcases h with ⟨ci, fl⟩ | ⟨t, n, b⟩
  · simp only [zc_E, h1]
  · cases b
    · simp only [zc_E, h1]
    · simp only [zc_E, h2]
theorem zc_set {sh : List zc_H} {c : Nat → ClassId} {a : Nat → Nat} {σ τ : zc_S} {k : Nat} {h : zc_H} (hk : sh[k]? = some h) {e : va_E} (he : e = zc_E c a τ k h) (h1 : ∀ k', k' ≠ k → τ.1 k' = σ.1 k') (h2 : ∀ k', k' ≠ k → τ.2 k' = σ.2 k') : (zc_W sh c a σ).set k (a k, e) = zc_W sh c a τ := by
  have hl : k < (zc_W sh c a σ).length := (List.getElem?_eq_some_iff.mp (zc_at (c := c) (a := a) (σ := σ) hk)).1
  apply List.ext_getElem?
  intro i
  by_cases hi : i = k
  · subst hi
    rw [List.getElem?_set_self hl, zc_at hk, he]
  · rw [List.getElem?_set_ne (Ne.symm hi)]
    simp only [zc_W, List.getElem?_mapIdx]
    cases hs : sh[i]? with
    | none => rfl
    | some x => simp only [Option.map_some]; rw [zc_E_cong (h1 i hi).symm (h2 i hi).symm]
def zc_A (sh : List zc_H) (a : Nat → Nat) : Nat → Prop := fun q => ∃ k, k < sh.length ∧ a k = q
def zc_inj (sh : List zc_H) (a : Nat → Nat) : Prop := ∀ i j, i < sh.length → j < sh.length → a i = a j → i = j
theorem zc_D' {sh : List zc_H} {c : Nat → ClassId} {a : Nat → Nat} {σ : zc_S} (hi : zc_inj sh a) : va_D (zc_A sh a) (zc_W sh c a σ) := by
  refine ⟨fun i j p q hp hq he => ?_, fun k q hq => ?_⟩
  · obtain ⟨x, hx, rfl⟩ := zc_at' hp
    obtain ⟨y, hy, rfl⟩ := zc_at' hq
    exact hi i j (List.getElem?_eq_some_iff.mp hx).1 (List.getElem?_eq_some_iff.mp hy).1 he
  · obtain ⟨x, hx, rfl⟩ := zc_at' hq
    exact ⟨k, (List.getElem?_eq_some_iff.mp hx).1, rfl⟩
def zc_ty (c : Nat → ClassId) : List (ClassId × FieldType) := [(c 0, .int), (c 1, .boolean), (c 2, .long)]
/-- what never changes: the tables and texts that the class reads -/
def zc_len : List Nat := [4, 4, 4, 4, 6]
def zc_byt : List (List Int32) := [[115, 97, 109, 101], [109, 101, 97, 110], [115, 116, 101, 112], [108, 105, 107, 101], [106, 111, 105, 110, 101, 100]]
def zc_txi : List Nat := [76, 82, 84, 86, 88]
def zc_txt : List String := ["same", "mean", "step", "like", "joined"]
def zc_T (A : Nat → Prop) (z : Nat → Nat) (U : State) (H : Heap) : Prop :=
  va_Z RX6 "LEAST" "[I" (.ref (z 0)) A U H ∧ va_T .int (z 0) 5 (fun j => .int (([1, 1, 0, 1, 1] : List Int32).getD j 0)) A U H ∧
  va_Z RX6 "MOST" "[I" (.ref (z 1)) A U H ∧ va_T .int (z 1) 5 (fun j => .int (([14, 20, 10, 8, 30] : List Int32).getD j 0)) A U H ∧
  va_Z RJ0 "COMPACT_STRINGS" "Z" (.int 1) A U H ∧ va_Zq RJ3 "SIOOBE_FORMATTER" "Ljava/util/function/BiFunction;" A U H ∧
  vk_S 5 zc_len zc_byt (fun i => z (2 + i)) (fun i => z (7 + i)) A U H
def zc_Z (A : Nat → Prop) (z : Nat → Nat) (U : State) : Prop := (∀ w ∈ lw_nest, va_Nw w U) ∧ zc_T A z U U.heap ∧ ∀ i, i < 5 → vk_R RX6 (zc_txi.getD i 0) (zc_txt.getD i "") (z (2 + i)) U
theorem zc_T.kept {A : Nat → Prop} {z : Nat → Nat} {U : State} {H H1 : Heap} (h : zc_T A z U H) (hq : ∀ a : Nat, a < H.size → ¬ A a → H1[a]? = H[a]?) : zc_T A z U H1 :=
  ⟨h.1.kept hq, h.2.1.kept hq, h.2.2.1.kept hq, h.2.2.2.1.kept hq, h.2.2.2.2.1.kept hq, h.2.2.2.2.2.1.kept hq, h.2.2.2.2.2.2.kept hq⟩
theorem zc_T.moved {A : Nat → Prop} {z : Nat → Nat} {u U : State} {H : Heap} (hvm : u.vm.Alike U.vm) (h : zc_T A z u H) : zc_T A z U H :=
  ⟨va_Z.moved hvm h.1, va_T.moved hvm h.2.1, va_Z.moved hvm h.2.2.1, va_T.moved hvm h.2.2.2.1, va_Z.moved hvm h.2.2.2.2.1, va_Zq.moved hvm h.2.2.2.2.2.1, vk_S.moved hvm h.2.2.2.2.2.2⟩
theorem zc_T.narrow {A B : Nat → Prop} {z : Nat → Nat} {U : State} {H : Heap} (h : zc_T A z U H) (hAB : ∀ q, B q → A q) : zc_T B z U H :=
  ⟨h.1.narrow hAB, h.2.1.narrow hAB, h.2.2.1.narrow hAB, h.2.2.2.1.narrow hAB, h.2.2.2.2.1.narrow hAB, h.2.2.2.2.2.1.narrow hAB, h.2.2.2.2.2.2.narrow hAB⟩
theorem zc_Z.go {A : Nat → Prop} {z : Nat → Nat} {s U : State} {H : Heap} {locs : List Loc} (h : zc_Z A z s) (hS : va_S A s.heap H locs) (hU : U.heap = H) (hW : s.WarmedH U.vm) : zc_Z A z U := by
  refine ⟨fun w hw => zc_Nwarm hw hW (h.1 w hw), ?_, fun i hi => vk_R.warm hW (h.2.2 i hi)⟩
  rw [hU]
  exact zc_T.moved hW.alike (h.2.1.kept hS.2.1)
theorem zc_Z.calling {A : Nat → Prop} {z : Nat → Nat} {U : State} (h : zc_Z A z U) (g : JFrame) (mk : MethodId) (a : Array Value) : zc_Z A z (U.calling g mk a) :=
  ⟨fun w hw => zc_Nsame (u := U) (U := U.calling g mk a) hw rfl (h.1 w hw), zc_T.moved (u := U) (U := U.calling g mk a) (Vm.Alike.refl U.vm) h.2.1, fun i hi => vk_R.same rfl (h.2.2 i hi)⟩
abbrev zg_p (G : zc_X) : Program := G.1
abbrev zg_e (G : zc_X) : Env := G.2.1
abbrev zg_R (G : zc_X) : Room := G.2.2.1
abbrev zg_s (G : zc_X) : State := G.2.2.2.1
abbrev zg_m (G : zc_X) : MethodId := G.2.2.2.2.1
abbrev zg_a (G : zc_X) : Array Value := G.2.2.2.2.2.1
abbrev zg_b (G : zc_X) : List Frame := G.2.2.2.2.2.2.1
abbrev zg_M (G : zc_X) : Method := G.2.2.2.2.2.2.2.1
abbrev zg_c (G : zc_X) : Code := G.2.2.2.2.2.2.2.2.1
abbrev zg_Q (G : zc_X) : State → Prop := G.2.2.2.2.2.2.2.2.2.1
abbrev zg_k (G : zc_X) : Nat := G.2.2.2.2.2.2.2.2.2.2.1
abbrev zg_n (G : zc_X) : Nat := G.2.2.2.2.2.2.2.2.2.2.2
/-- from every heap with I, with these locals: the method at pc with this stack comes to its end -/
def zc_V (nL : Nat) (K : zc_K) (G : zc_X) (I : Heap → List Loc → Prop) (lv : List (Nat × Value)) (pc : Nat) (st : List Value) : Prop :=
  ∀ (H : Heap) (locs : List Loc) (ls : Array Slot), I H locs → lv_has ls nL lv → W (zg_p G) K.1 (zg_e G) (zg_R G) (zg_s G) (zg_m G) (zg_a G) (zg_b G) (zg_M G) (zg_c G) H locs (zg_k G) (zg_n G) (zg_Q G) (F0 (zg_m G) pc ls st)
def zc_D (sh : List zc_H) (K : zc_K) (G : zc_X) (σ : zc_S) : Heap → List Loc → Prop := fun H locs => va_P K.2.1 vwCl (zc_W sh K.2.2.1 K.2.2.2.1 σ) H ∧ va_S (zc_A sh K.2.2.2.1) (zg_s G).heap H locs
def zc_B (nL : Nat) (own : String) (cc : ByteArray) (G : zc_X) : Prop := (zg_p G).tables.exec = Jvm.exec ∧ (zg_c G).code = cc ∧ (zg_c G).maxLocals = nL ∧ (zg_s G).vm.findClass own = some (zg_m G).cls ∧ ∀ w ∈ lw_good, w.before (zg_a G) (zg_s G) = true
def zc_Pc (sh : List zc_H) (K : zc_K) (σ : zc_S) (av : List Value) : Array Value → State → Prop := va_Pc av (fun U => va_P K.2.1 vwCl (zc_W sh K.2.2.1 K.2.2.2.1 σ) U.heap ∧ va_K K.2.1 vwCl (zc_ty K.2.2.1) U ∧ zc_Z (zc_A sh K.2.2.2.1) K.2.2.2.2 U)
def zc_Q (sh : List zc_H) (K : zc_K) (post : Option Value → zc_S → Prop) : Array Value → State → Outcome → State → Prop := fun _ st oc t => (∃ (r : Option Value) (σ : zc_S), oc = .returned r ∧ post r σ ∧ va_P K.2.1 vwCl (zc_W sh K.2.2.1 K.2.2.2.1 σ) t.heap) ∧ va_F (zc_A sh K.2.2.2.1) st t
/-- a method's contract over the world sh -/
def zc_M (sh : List zc_H) (K : zc_K) (y : MethodName) (cc : ByteArray) (nL : Nat) (rt : Option FieldType) (rm : Room) (σ : zc_S) (av : List Value) (post : Option Value → zc_S → Prop) : Prop :=
  Met K.1 y (.code y cc nL rt :: lw_good) rm (zc_Pc sh K σ av) (zc_Q sh K post) 0 0 (zc_A sh K.2.2.2.1)
/-- a method's body, running -/
def zc_G (sh : List zc_H) (nL : Nat) (own : String) (cc : ByteArray) (rt : Option FieldType) (rm : Room) (post : Option Value → zc_S → Prop) (K : zc_K) (G : zc_X) : Prop :=
  zc_B nL own cc G ∧ (zg_M G).sig.returnType = rt ∧ (zg_M G).locks = false ∧ zg_R G = rm ∧ va_K K.2.1 vwCl (zc_ty K.2.2.1) (zg_s G) ∧ zc_inj sh K.2.2.2.1 ∧ zc_Z (zc_A sh K.2.2.2.1) K.2.2.2.2 (zg_s G) ∧ zg_Q G = MQ (zg_b G) (zc_Q sh K post) (zg_a G) (zg_s G) 0 0 (zc_A sh K.2.2.2.1) ∧ zg_k G = 0 ∧ zg_n G = 0
theorem zc_ofW {l : Launch} {y : MethodName} {ws ws' : List Cond} {rm : Room} {Pc : Array Value → State → Prop} {Qc : Array Value → State → Outcome → State → Prop} {mc ms : Nat} {free : Addr → Prop} {cc : ByteArray} {maxL : Nat} {ret : Option FieldType}
    (hy : plainFor y = true) (hw : ws = Cond.code y cc maxL ret :: ws')
    (body : ∀ p e s m args below meth c s₁, BodyLoose p l y (headSpec ws rm) cc maxL ret e s m args below meth c s₁ → c.maxLocals = maxL → Pc args s →
      W p l e (headSpec ws rm).room s m args below meth c s.heap [] 0 0 (MQ below Qc args s mc ms free) (entryFrame m args maxL)) : Met l y ws rm Pc Qc mc ms free := by
  refine MetFree.of_bodySF (code := cc) (maxLocals := maxL) (ret := ret) hy ?_ ?_
  · intro args s m h hn
    obtain ⟨meth, c, h1, h2, h3, h4, h5, h6, -, -⟩ := Cond.code_spec hn (atoms_spec (ws := ws) h _ (by rw [hw]; exact List.mem_cons_self))
    exact ⟨meth, c, h1, h2, h3, h4, h5, h6⟩
  · intro p e s m args below meth c s₁ B hml hP _
    have hh0 : s₁.heap = s.heap := by rw [B.state]; rfl
    obtain ⟨t, a1, o, b1, b2, b3⟩ := body p e s m args below meth c s₁ B hml hP s₁ hh0 (Stand.of_body B)
    exact ⟨t, o, a1, b1, b2, ⟨b3.1, b3.2⟩⟩
theorem zc_start {sh : List zc_H} {K : zc_K} {y : MethodName} {cc : ByteArray} {nL : Nat} {rt : Option FieldType} {rm : Room} {σ : zc_S} {av : List Value} {post : Option Value → zc_S → Prop} (own : String) (hi : zc_inj sh K.2.2.2.1) (hy : plainFor y = true) (ho : y.cls = own) (hn : (lg_sl av).length ≤ nL)
    (h : ∀ G : zc_X, zc_G sh nL own cc rt rm post K G → zc_V nL K G (zc_D sh K G σ) (lv_args 0 av) 0 []) : zc_M sh K y cc nL rt rm σ av post := by
  refine zc_ofW (cc := cc) (maxL := nL) (ret := rt) hy rfl ?_
  intro p e s m args below meth c s₁ B hml hv
  obtain ⟨rfl, hP, hK, hZ⟩ := hv
  have hts := atoms_spec (ws := .code y cc nL rt :: lw_good) B.pre
  have hown : s.vm.findClass own = some m.cls := by rw [← ho]; exact findClass_of_methodNamed B.named
  have hl := lv_entry av (n := nL) hn
  rw [lg_entry_eq]
  exact h (p, e, rm, s, m, av.toArray, below, meth, c, MQ below (zc_Q sh K post) av.toArray s 0 0 (zc_A sh K.2.2.2.1), 0, 0) ⟨⟨B.exec, B.bytes, hml, hown, fun w hw => hts w (List.mem_cons_of_mem _ hw)⟩, B.returns, B.notSynchronized, rfl, hK, hi, hZ, rfl, rfl, rfl⟩ s.heap [] _ ⟨hP, va_S.rf⟩ hl
theorem zc_call {p : Program} {l : Launch} {e : Env} {R : Room} {s : State} {m : MethodId} {args : Array Value} {below : List Frame} {meth : Method} {c : Code} {H : Heap} {locs : List Loc} {cells slots : Nat} {Q : State → Prop} {pc : Nat} {ls : Array Slot} {rest st0 : List Value} {a : Array Value} {H0 : Heap} {A0 free : Nat → Prop} {sh : List zc_H} {K : zc_K} {post : Option Value → zc_S → Prop}
    (hr : va_Run p l e R s m args below meth c H locs cells slots 0 0 (F0 m pc ls st0) rest (zc_Q sh K post a) free) (hS : va_S A0 H0 H locs) (hA : ∀ q, zc_A sh K.2.2.2.1 q → A0 q) (hf : ∀ q, free q → A0 q)
    (kk : ∀ (r : Option Value) (σ : zc_S) (H1 : Heap) (locs1 : List Loc), post r σ → va_P K.2.1 vwCl (zc_W sh K.2.2.1 K.2.2.2.1 σ) H1 → (∀ q : Nat, q < H.size → ¬ zc_A sh K.2.2.2.1 q → H1[q]? = H[q]?) → va_S A0 H0 H1 locs1 → W p l e R s m args below meth c H1 locs1 cells slots Q (F0 m (pc + 3) ls (r.toList ++ rest))) : W p l e R s m args below meth c H locs cells slots Q (F0 m pc ls st0) := by
  intro T hT X
  obtain ⟨v, st₀, t, T', L, h0, X', hL, e1, e2, ⟨⟨r, σ, hv, hp, hb⟩, hz, hk⟩, st⟩ := hr T hT X
  cases hv
  rw [h0] at hz hk
  obtain ⟨t2, a1, b1⟩ := kk v σ T'.heap (locs ++ L) hp (by rw [e1]; exact hb) (fun q h1 h2 => by rw [e1]; exact hk q h1 h2)
    ⟨Nat.le_trans hS.1 (by rw [e1]; exact hz), fun q h1 h2 => by rw [e1, hk q (Nat.lt_of_lt_of_le h1 hS.1) (fun z => h2 (hA q z))]; exact hS.2.1 q h1 h2, fun q hq => by
      rcases List.mem_append.mp hq with h | h
      · exact hS.2.2 q h
      · exact hf _ (hL q h)⟩ T' rfl X'
  exact ⟨t2, st t2 a1, b1⟩
/-! numbers -/
theorem zn_lt (x y : Int32) : x < y ↔ x.toInt < y.toInt := Int32.lt_iff_toInt_lt
theorem zn_le (x y : Int32) : x ≤ y ↔ x.toInt ≤ y.toInt := Int32.le_iff_toInt_le
theorem zn_eq (x y : Int32) : x = y ↔ x.toInt = y.toInt := Int32.toInt_inj.symm
theorem zn_lo (x : Int32) : -2147483648 ≤ x.toInt := Int32.le_toInt x
theorem zn_hi (x : Int32) : x.toInt ≤ 2147483647 := Int.le_of_lt_add_one (Int32.toInt_lt x)
theorem zn_bm {z : Int} (h1 : -2147483648 ≤ z) (h2 : z ≤ 2147483647) : z.bmod (2 ^ 32) = z := by
  apply Int.bmod_eq_of_le <;> omega
theorem zn_add {x y : Int32} (h1 : -2147483648 ≤ x.toInt + y.toInt) (h2 : x.toInt + y.toInt ≤ 2147483647) : (x + y).toInt = x.toInt + y.toInt := by
  rw [Int32.toInt_add, zn_bm h1 h2]
theorem zn_sub {x y : Int32} (h1 : -2147483648 ≤ x.toInt - y.toInt) (h2 : x.toInt - y.toInt ≤ 2147483647) : (x - y).toInt = x.toInt - y.toInt := by
  rw [Int32.toInt_sub, zn_bm h1 h2]
theorem zn_mul {x y : Int32} (h1 : -2147483648 ≤ x.toInt * y.toInt) (h2 : x.toInt * y.toInt ≤ 2147483647) : (x * y).toInt = x.toInt * y.toInt := by
  rw [Int32.toInt_mul, zn_bm h1 h2]
theorem zn_neg {x : Int32} (h1 : -2147483647 ≤ x.toInt) : (-x).toInt = -x.toInt := by
  have h2 := zn_hi x
  rw [Int32.toInt_neg, zn_bm (by omega) (by omega)]
theorem zn_div {x y : Int32} (hx : 0 ≤ x.toInt) (hy : 0 < y.toInt) : (x / y).toInt = x.toInt / y.toInt := by
  have h2 := zn_hi x
  have h3 : 0 ≤ x.toInt / y.toInt := Int.ediv_nonneg hx (by omega)
  have h4 : x.toInt / y.toInt ≤ x.toInt := Int.ediv_le_self _ hx
  rw [Int32.toInt_div, Int.tdiv_eq_ediv_of_nonneg hx, zn_bm (by omega) (by omega)]
theorem zn_rem {x y : Int32} (hx : 0 ≤ x.toInt) (hy : 0 < y.toInt) : (x - x / y * y).toInt = x.toInt % y.toInt := by
  have h1 := zn_div hx hy
  have h2 := zn_hi x
  have h3 : 0 ≤ x.toInt / y.toInt := Int.ediv_nonneg hx (by omega)
  have h5 : x.toInt / y.toInt * y.toInt ≤ x.toInt := Int.ediv_mul_le _ (by omega)
  have h6 : 0 ≤ x.toInt / y.toInt * y.toInt := Int.mul_nonneg h3 (by omega)
  have h4 : (x / y * y).toInt = x.toInt / y.toInt * y.toInt := by rw [zn_mul (by rw [h1]; omega) (by rw [h1]; omega), h1]
  rw [zn_sub (by rw [h4]; omega) (by rw [h4]; omega), h4]
  have := Int.emod_add_mul_ediv x.toInt y.toInt
  rw [Int.mul_comm] at this
  omega
theorem zn_in {i : Int32} {n : Nat} (h1 : 0 ≤ i.toInt) (h2 : i.toInt < n) : vp_in i n := by
  rintro (h | h)
  · rw [zn_lt, Int32.toInt_zero] at h; omega
  · have e : (i.toNatClampNeg : Int) = i.toInt := by rw [← Int32.toNat_toInt]; omega
    omega
theorem zl_lt (x y : Int64) : x < y ↔ x.toInt < y.toInt := Int64.lt_iff_toInt_lt
theorem zl_le (x y : Int64) : x ≤ y ↔ x.toInt ≤ y.toInt := Int64.le_iff_toInt_le
theorem zl_eq (x y : Int64) : x = y ↔ x.toInt = y.toInt := Int64.toInt_inj.symm
theorem zl_bm {z : Int} (h1 : -9223372036854775808 ≤ z) (h2 : z ≤ 9223372036854775807) : z.bmod (2 ^ 64) = z := by
  apply Int.bmod_eq_of_le <;> omega
theorem zl_add {x y : Int64} (h1 : -9223372036854775808 ≤ x.toInt + y.toInt) (h2 : x.toInt + y.toInt ≤ 9223372036854775807) : (x + y).toInt = x.toInt + y.toInt := by
  rw [Int64.toInt_add, zl_bm h1 h2]
theorem zl_sub {x y : Int64} (h1 : -9223372036854775808 ≤ x.toInt - y.toInt) (h2 : x.toInt - y.toInt ≤ 9223372036854775807) : (x - y).toInt = x.toInt - y.toInt := by
  rw [Int64.toInt_sub, zl_bm h1 h2]
theorem zl_mul {x y : Int64} (h1 : -9223372036854775808 ≤ x.toInt * y.toInt) (h2 : x.toInt * y.toInt ≤ 9223372036854775807) : (x * y).toInt = x.toInt * y.toInt := by
  rw [Int64.toInt_mul, zl_bm h1 h2]
section ZR
variable {nL : Nat} {own : String} {cc : ByteArray} {K : zc_K} {G : zc_X} {I : Heap → List Loc → Prop} {lv lv' : List (Nat × Value)} {pc tgt : Nat} {st : List Value} {off : Int}
theorem zc_imp {J : Heap → List Loc → Prop} (h : ∀ H locs, I H locs → J H locs) (k : zc_V nL K G J lv pc st) : zc_V nL K G I lv pc st := fun H locs ls hI hl => k H locs ls (h H locs hI) hl
/-- fewer locals -/
theorem zc_sub (ks : List Nat) (h : lv_pick lv ks = lv') (k : zc_V nL K G I lv' pc st) : zc_V nL K G I lv pc st := fun H locs ls hI hl => k H locs ls hI (lv_sub hl ks h)
theorem zr_iconst (hB : zc_B nL own cc G) {n : Int} (hd : decode cc pc = .ok (.iconst n, 1)) (hn : (Int32.ofInt n).toInt = n) (k : ∀ z : Int32, z.toInt = n → zc_V nL K G I lv (pc + 1) (.int z :: st)) : zc_V nL K G I lv pc st := fun H locs ls hI hl => lv_iconst hB.1 hB.2.1 hd rfl (k _ hn H locs ls hI hl)
theorem zr_bipush (hB : zc_B nL own cc G) {n : Int} (hd : decode cc pc = .ok (.bipush n, 2)) (hn : ((Int8.ofInt n).toInt32).toInt = n) (k : ∀ z : Int32, z.toInt = n → zc_V nL K G I lv (pc + 2) (.int z :: st)) : zc_V nL K G I lv pc st := fun H locs ls hI hl => lv_bipush hB.1 hB.2.1 hd rfl (k _ hn H locs ls hI hl)
theorem zr_sipush (hB : zc_B nL own cc G) {n : Int} (hd : decode cc pc = .ok (.sipush n, 3)) (hn : ((Int16.ofInt n).toInt32).toInt = n) (k : ∀ z : Int32, z.toInt = n → zc_V nL K G I lv (pc + 3) (.int z :: st)) : zc_V nL K G I lv pc st := fun H locs ls hI hl => lv_sipush hB.1 hB.2.1 hd rfl (k _ hn H locs ls hI hl)
theorem zr_lconst (hB : zc_B nL own cc G) {n : Fin 2} {m : Int} (hd : decode cc pc = .ok (.lconst n, 1)) (hn : (Int64.ofNat (n : Nat)).toInt = m) (k : ∀ z : Int64, z.toInt = m → zc_V nL K G I lv (pc + 1) (.long z :: st)) : zc_V nL K G I lv pc st := fun H locs ls hI hl => lv_lconst hB.1 hB.2.1 hd rfl (k _ hn H locs ls hI hl)
theorem zr_ldc (hB : zc_B nL own cc G) {idx : Nat} {v : Int32} {n : Int} (hd : decode cc pc = .ok (.ldc idx, 2)) (hw : Cond.constant own idx v ∈ lw_good) (hn : v.toInt = n) (k : ∀ z : Int32, z.toInt = n → zc_V nL K G I lv (pc + 2) (.int z :: st)) : zc_V nL K G I lv pc st := fun H locs ls hI hl => lv_ldc hB.1 hB.2.1 hB.2.2.2.1 (hB.2.2.2.2 _ hw) hd (k _ hn H locs ls hI hl)
theorem zr_ldcw (hB : zc_B nL own cc G) {idx : Nat} {v : Int32} {n : Int} (hd : decode cc pc = .ok (.ldc_w idx, 3)) (hw : Cond.constant own idx v ∈ lw_good) (hn : v.toInt = n) (k : ∀ z : Int32, z.toInt = n → zc_V nL K G I lv (pc + 3) (.int z :: st)) : zc_V nL K G I lv pc st := fun H locs ls hI hl => lv_ldcw hB.1 hB.2.1 hB.2.2.2.1 (hB.2.2.2.2 _ hw) hd (k _ hn H locs ls hI hl)
theorem zr_ldc2 (hB : zc_B nL own cc G) {idx : Nat} {v : Int64} {n : Int} (hd : decode cc pc = .ok (.ldc2_w idx, 3)) (hw : Cond.constantLong own idx v ∈ lw_good) (hn : v.toInt = n) (k : ∀ z : Int64, z.toInt = n → zc_V nL K G I lv (pc + 3) (.long z :: st)) : zc_V nL K G I lv pc st := fun H locs ls hI hl => lv_ldc2 hB.1 hB.2.1 hB.2.2.2.1 (hB.2.2.2.2 _ hw) hd (k _ hn H locs ls hI hl)
theorem zr_iload_n (hB : zc_B nL own cc G) {q : Fin 4} {x : Int32} (i : Nat) (hd : decode cc pc = .ok (.iload_n q, 1)) (hl0 : lv[i]? = some ((q : Nat), .int x)) (k : zc_V nL K G I lv (pc + 1) (.int x :: st)) : zc_V nL K G I lv pc st := fun H locs ls hI hl => lv_iload_n hB.1 hB.2.1 hd rfl (lv_at hl i hl0) (k H locs ls hI hl)
theorem zr_iload (hB : zc_B nL own cc G) {q : Nat} {x : Int32} (i : Nat) (hd : decode cc pc = .ok (.iload q, 2)) (hl0 : lv[i]? = some (q, .int x)) (k : zc_V nL K G I lv (pc + 2) (.int x :: st)) : zc_V nL K G I lv pc st := fun H locs ls hI hl => lv_iload hB.1 hB.2.1 hd (lv_at hl i hl0) (k H locs ls hI hl)
theorem zr_lload_n (hB : zc_B nL own cc G) {q : Fin 4} {x : Int64} (i : Nat) (hd : decode cc pc = .ok (.lload_n q, 1)) (hl0 : lv[i]? = some ((q : Nat), .long x)) (k : zc_V nL K G I lv (pc + 1) (.long x :: st)) : zc_V nL K G I lv pc st := fun H locs ls hI hl => lv_lload_n hB.1 hB.2.1 hd rfl (lv_at hl i hl0) (k H locs ls hI hl)
theorem zr_lload (hB : zc_B nL own cc G) {q : Nat} {x : Int64} (i : Nat) (hd : decode cc pc = .ok (.lload q, 2)) (hl0 : lv[i]? = some (q, .long x)) (k : zc_V nL K G I lv (pc + 2) (.long x :: st)) : zc_V nL K G I lv pc st := fun H locs ls hI hl => lv_lload hB.1 hB.2.1 hd (lv_at hl i hl0) (k H locs ls hI hl)
theorem zr_aload_n (hB : zc_B nL own cc G) {q : Fin 4} {x : Nat} (i : Nat) (hd : decode cc pc = .ok (.aload_n q, 1)) (hl0 : lv[i]? = some ((q : Nat), .ref x)) (k : zc_V nL K G I lv (pc + 1) (.ref x :: st)) : zc_V nL K G I lv pc st := fun H locs ls hI hl => lv_aload_n hB.1 hB.2.1 hd rfl (lv_at hl i hl0) (k H locs ls hI hl)
theorem zr_aload (hB : zc_B nL own cc G) {q : Nat} {x : Nat} (i : Nat) (hd : decode cc pc = .ok (.aload q, 2)) (hl0 : lv[i]? = some (q, .ref x)) (k : zc_V nL K G I lv (pc + 2) (.ref x :: st)) : zc_V nL K G I lv pc st := fun H locs ls hI hl => lv_aload hB.1 hB.2.1 hd (lv_at hl i hl0) (k H locs ls hI hl)
theorem zr_istore_n (hB : zc_B nL own cc G) {q : Fin 4} {i : Nat} {x : Int32} (hd : decode cc pc = .ok (.istore_n q, 1)) (hi : (q : Nat) = i) (hn : i < nL) (hl0 : (i, Value.int x) :: lv.filter (fun q => !(q.1 == i) && !(q.1 + 1 == i && q.2.category == 2)) = lv') (k : zc_V nL K G I lv' (pc + 1) st) : zc_V nL K G I lv pc (.int x :: st) := fun H locs ls hI hl => lv_istore_n hB.1 hB.2.1 hd hi hl hn hl0 (fun ls hl => k H locs ls hI hl)
theorem zr_istore (hB : zc_B nL own cc G) {i : Nat} {x : Int32} (hd : decode cc pc = .ok (.istore i, 2)) (hn : i < nL) (hl0 : (i, Value.int x) :: lv.filter (fun q => !(q.1 == i) && !(q.1 + 1 == i && q.2.category == 2)) = lv') (k : zc_V nL K G I lv' (pc + 2) st) : zc_V nL K G I lv pc (.int x :: st) := fun H locs ls hI hl => lv_istore hB.1 hB.2.1 hd hl hn hl0 (fun ls hl => k H locs ls hI hl)
theorem zr_lstore_n (hB : zc_B nL own cc G) {q : Fin 4} {i : Nat} {x : Int64} (hd : decode cc pc = .ok (.lstore_n q, 1)) (hi : (q : Nat) = i) (hn : i + 1 < nL) (hl0 : (i, Value.long x) :: lv.filter (fun q => !(q.1 == i) && (!(q.1 == i + 1) && !(q.1 + 1 == i && q.2.category == 2))) = lv') (k : zc_V nL K G I lv' (pc + 1) st) : zc_V nL K G I lv pc (.long x :: st) := fun H locs ls hI hl => lv_lstore_n hB.1 hB.2.1 hd hi hl hn hl0 (fun ls hl => k H locs ls hI hl)
theorem zr_lstore (hB : zc_B nL own cc G) {i : Nat} {x : Int64} (hd : decode cc pc = .ok (.lstore i, 2)) (hn : i + 1 < nL) (hl0 : (i, Value.long x) :: lv.filter (fun q => !(q.1 == i) && (!(q.1 == i + 1) && !(q.1 + 1 == i && q.2.category == 2))) = lv') (k : zc_V nL K G I lv' (pc + 2) st) : zc_V nL K G I lv pc (.long x :: st) := fun H locs ls hI hl => lv_lstore hB.1 hB.2.1 hd hl hn hl0 (fun ls hl => k H locs ls hI hl)
theorem zr_astore_n (hB : zc_B nL own cc G) {q : Fin 4} {i : Nat} {x : Nat} (hd : decode cc pc = .ok (.astore_n q, 1)) (hi : (q : Nat) = i) (hn : i < nL) (hl0 : (i, Value.ref x) :: lv.filter (fun q => !(q.1 == i) && !(q.1 + 1 == i && q.2.category == 2)) = lv') (k : zc_V nL K G I lv' (pc + 1) st) : zc_V nL K G I lv pc (.ref x :: st) := fun H locs ls hI hl => lv_astore_n hB.1 hB.2.1 hd hi hl hn hl0 (fun ls hl => k H locs ls hI hl)
theorem zr_astore (hB : zc_B nL own cc G) {i : Nat} {x : Nat} (hd : decode cc pc = .ok (.astore i, 2)) (hn : i < nL) (hl0 : (i, Value.ref x) :: lv.filter (fun q => !(q.1 == i) && !(q.1 + 1 == i && q.2.category == 2)) = lv') (k : zc_V nL K G I lv' (pc + 2) st) : zc_V nL K G I lv pc (.ref x :: st) := fun H locs ls hI hl => lv_astore hB.1 hB.2.1 hd hl hn hl0 (fun ls hl => k H locs ls hI hl)
theorem zr_iinc (hB : zc_B nL own cc G) {i : Nat} {n : Int} {x : Int32} (j : Nat) (hd : decode cc pc = .ok (.iinc i n, 3)) (hj : lv[j]? = some (i, .int x)) (hn : i < nL) (hc : (Int32.ofInt n).toInt = n) (h1 : -2147483648 ≤ x.toInt + n) (h2 : x.toInt + n ≤ 2147483647) (k : ∀ z : Int32, z.toInt = x.toInt + n → ∀ lv', (i, Value.int z) :: lv.filter (fun q => !(q.1 == i) && !(q.1 + 1 == i && q.2.category == 2)) = lv' → zc_V nL K G I lv' (pc + 3) st) : zc_V nL K G I lv pc st := fun H locs ls hI hl => lv_iinc (v := x + Int32.ofInt n) hB.1 hB.2.1 hd hl hj rfl hn rfl (fun ls hl => k _ (by rw [zn_add (by rw [hc]; exact h1) (by rw [hc]; exact h2), hc]) _ rfl H locs ls hI hl)
theorem zr_iincw (hB : zc_B nL own cc G) {i : Nat} {n : Int} {x : Int32} (j : Nat) (hd : decode cc pc = .ok (.iinc i n, 3)) (hj : lv[j]? = some (i, .int x)) (hn : i < nL) (k : ∀ z : Int32, z = x + Int32.ofInt n → ∀ lv', (i, Value.int z) :: lv.filter (fun q => !(q.1 == i) && !(q.1 + 1 == i && q.2.category == 2)) = lv' → zc_V nL K G I lv' (pc + 3) st) : zc_V nL K G I lv pc st := fun H locs ls hI hl => lv_iinc (v := x + Int32.ofInt n) hB.1 hB.2.1 hd hl hj rfl hn rfl (fun ls hl => k _ rfl _ rfl H locs ls hI hl)
theorem zr_iadd (hB : zc_B nL own cc G) {x y : Int32} (hd : decode cc pc = .ok (.iadd, 1)) (h1 : -2147483648 ≤ x.toInt + y.toInt) (h2 : x.toInt + y.toInt ≤ 2147483647) (k : ∀ z : Int32, z.toInt = x.toInt + y.toInt → zc_V nL K G I lv (pc + 1) (.int z :: st)) : zc_V nL K G I lv pc (.int y :: .int x :: st) := fun H locs ls hI hl => lv_iadd hB.1 hB.2.1 hd (k _ (zn_add h1 h2) H locs ls hI hl)
theorem zr_iaddw (hB : zc_B nL own cc G) {x y : Int32} (hd : decode cc pc = .ok (.iadd, 1)) (k : ∀ z : Int32, z = x + y → zc_V nL K G I lv (pc + 1) (.int z :: st)) : zc_V nL K G I lv pc (.int y :: .int x :: st) := fun H locs ls hI hl => lv_iadd hB.1 hB.2.1 hd (k _ rfl H locs ls hI hl)
theorem zr_isub (hB : zc_B nL own cc G) {x y : Int32} (hd : decode cc pc = .ok (.isub, 1)) (h1 : -2147483648 ≤ x.toInt - y.toInt) (h2 : x.toInt - y.toInt ≤ 2147483647) (k : ∀ z : Int32, z.toInt = x.toInt - y.toInt → zc_V nL K G I lv (pc + 1) (.int z :: st)) : zc_V nL K G I lv pc (.int y :: .int x :: st) := fun H locs ls hI hl => lv_isub hB.1 hB.2.1 hd (k _ (zn_sub h1 h2) H locs ls hI hl)
theorem zr_isubw (hB : zc_B nL own cc G) {x y : Int32} (hd : decode cc pc = .ok (.isub, 1)) (k : ∀ z : Int32, z = x - y → zc_V nL K G I lv (pc + 1) (.int z :: st)) : zc_V nL K G I lv pc (.int y :: .int x :: st) := fun H locs ls hI hl => lv_isub hB.1 hB.2.1 hd (k _ rfl H locs ls hI hl)
theorem zr_imul (hB : zc_B nL own cc G) {x y : Int32} (hd : decode cc pc = .ok (.imul, 1)) (h1 : -2147483648 ≤ x.toInt * y.toInt) (h2 : x.toInt * y.toInt ≤ 2147483647) (k : ∀ z : Int32, z.toInt = x.toInt * y.toInt → zc_V nL K G I lv (pc + 1) (.int z :: st)) : zc_V nL K G I lv pc (.int y :: .int x :: st) := fun H locs ls hI hl => lv_imul hB.1 hB.2.1 hd (k _ (zn_mul h1 h2) H locs ls hI hl)
theorem zr_imulw (hB : zc_B nL own cc G) {x y : Int32} (hd : decode cc pc = .ok (.imul, 1)) (k : ∀ z : Int32, z = x * y → zc_V nL K G I lv (pc + 1) (.int z :: st)) : zc_V nL K G I lv pc (.int y :: .int x :: st) := fun H locs ls hI hl => lv_imul hB.1 hB.2.1 hd (k _ rfl H locs ls hI hl)
theorem zr_iand (hB : zc_B nL own cc G) {x y : Int32} (hd : decode cc pc = .ok (.iand, 1)) (k : ∀ z : Int32, z = x &&& y → zc_V nL K G I lv (pc + 1) (.int z :: st)) : zc_V nL K G I lv pc (.int y :: .int x :: st) := fun H locs ls hI hl => lv_iand hB.1 hB.2.1 hd (k _ rfl H locs ls hI hl)
theorem zr_ior (hB : zc_B nL own cc G) {x y : Int32} (hd : decode cc pc = .ok (.ior, 1)) (k : ∀ z : Int32, z = x ||| y → zc_V nL K G I lv (pc + 1) (.int z :: st)) : zc_V nL K G I lv pc (.int y :: .int x :: st) := fun H locs ls hI hl => lv_ior hB.1 hB.2.1 hd (k _ rfl H locs ls hI hl)
theorem zr_ixor (hB : zc_B nL own cc G) {x y : Int32} (hd : decode cc pc = .ok (.ixor, 1)) (k : ∀ z : Int32, z = x ^^^ y → zc_V nL K G I lv (pc + 1) (.int z :: st)) : zc_V nL K G I lv pc (.int y :: .int x :: st) := fun H locs ls hI hl => lv_ixor hB.1 hB.2.1 hd (k _ rfl H locs ls hI hl)
theorem zr_ishl (hB : zc_B nL own cc G) {x y : Int32} (hd : decode cc pc = .ok (.ishl, 1)) (k : ∀ z : Int32, z = x <<< (y &&& 31) → zc_V nL K G I lv (pc + 1) (.int z :: st)) : zc_V nL K G I lv pc (.int y :: .int x :: st) := fun H locs ls hI hl => lv_ishl hB.1 hB.2.1 hd (k _ rfl H locs ls hI hl)
theorem zr_ishr (hB : zc_B nL own cc G) {x y : Int32} (hd : decode cc pc = .ok (.ishr, 1)) (k : ∀ z : Int32, z = x >>> (y &&& 31) → zc_V nL K G I lv (pc + 1) (.int z :: st)) : zc_V nL K G I lv pc (.int y :: .int x :: st) := fun H locs ls hI hl => lv_ishr hB.1 hB.2.1 hd (k _ rfl H locs ls hI hl)
theorem zr_idiv (hB : zc_B nL own cc G) {x y : Int32} (hd : decode cc pc = .ok (.idiv, 1)) (hx : 0 ≤ x.toInt) (hy : 0 < y.toInt) (k : ∀ z : Int32, z.toInt = x.toInt / y.toInt → 0 ≤ z.toInt → z.toInt ≤ x.toInt → (∀ c : Int, x.toInt ≤ c * y.toInt → z.toInt ≤ c) → zc_V nL K G I lv (pc + 1) (.int z :: st)) : zc_V nL K G I lv pc (.int y :: .int x :: st) := fun H locs ls hI hl => lv_idiv hB.1 hB.2.1 hd (fun h => by rw [h] at hy; exact absurd hy (by decide)) (k _ (zn_div hx hy) (by rw [zn_div hx hy]; exact Int.ediv_nonneg hx (Int.le_of_lt hy)) (by rw [zn_div hx hy]; exact Int.ediv_le_self _ hx) (fun c h => by rw [zn_div hx hy]; exact Int.ediv_le_of_le_mul hy h) H locs ls hI hl)
theorem zr_idivw (hB : zc_B nL own cc G) {x y : Int32} (hd : decode cc pc = .ok (.idiv, 1)) (hy : ¬ y.toInt = 0) (k : ∀ z : Int32, z = x / y → zc_V nL K G I lv (pc + 1) (.int z :: st)) : zc_V nL K G I lv pc (.int y :: .int x :: st) := fun H locs ls hI hl => lv_idiv hB.1 hB.2.1 hd (fun h => hy (by rw [h]; rfl)) (k _ rfl H locs ls hI hl)
theorem zr_irem (hB : zc_B nL own cc G) {x y : Int32} (hd : decode cc pc = .ok (.irem, 1)) (hx : 0 ≤ x.toInt) (hy : 0 < y.toInt) (k : ∀ z : Int32, z.toInt = x.toInt % y.toInt → 0 ≤ z.toInt → z.toInt < y.toInt → zc_V nL K G I lv (pc + 1) (.int z :: st)) : zc_V nL K G I lv pc (.int y :: .int x :: st) := fun H locs ls hI hl => lv_irem hB.1 hB.2.1 hd (fun h => by rw [h] at hy; exact absurd hy (by decide)) (k _ (zn_rem hx hy) (by rw [zn_rem hx hy]; exact Int.emod_nonneg _ (by omega)) (by rw [zn_rem hx hy]; exact Int.emod_lt_of_pos _ hy) H locs ls hI hl)
theorem zr_iremw (hB : zc_B nL own cc G) {x y : Int32} (hd : decode cc pc = .ok (.irem, 1)) (hy : ¬ y.toInt = 0) (k : ∀ z : Int32, z = x - x / y * y → zc_V nL K G I lv (pc + 1) (.int z :: st)) : zc_V nL K G I lv pc (.int y :: .int x :: st) := fun H locs ls hI hl => lv_irem hB.1 hB.2.1 hd (fun h => hy (by rw [h]; rfl)) (k _ rfl H locs ls hI hl)
theorem zr_ineg (hB : zc_B nL own cc G) {x : Int32} (hd : decode cc pc = .ok (.ineg, 1)) (h1 : -2147483647 ≤ x.toInt) (k : ∀ z : Int32, z.toInt = -x.toInt → zc_V nL K G I lv (pc + 1) (.int z :: st)) : zc_V nL K G I lv pc (.int x :: st) := fun H locs ls hI hl => lv_ineg hB.1 hB.2.1 hd (k _ (zn_neg h1) H locs ls hI hl)
theorem zr_inegw (hB : zc_B nL own cc G) {x : Int32} (hd : decode cc pc = .ok (.ineg, 1)) (k : ∀ z : Int32, z = -x → zc_V nL K G I lv (pc + 1) (.int z :: st)) : zc_V nL K G I lv pc (.int x :: st) := fun H locs ls hI hl => lv_ineg hB.1 hB.2.1 hd (k _ rfl H locs ls hI hl)
theorem zr_i2l (hB : zc_B nL own cc G) {x : Int32} (hd : decode cc pc = .ok (.i2l, 1)) (k : ∀ z : Int64, z.toInt = x.toInt → zc_V nL K G I lv (pc + 1) (.long z :: st)) : zc_V nL K G I lv pc (.int x :: st) := fun H locs ls hI hl => lv_i2l hB.1 hB.2.1 hd rfl (k _ (Int32.toInt_toInt64 x) H locs ls hI hl)
theorem zr_l2i (hB : zc_B nL own cc G) {x : Int64} (hd : decode cc pc = .ok (.l2i, 1)) (h1 : -2147483648 ≤ x.toInt) (h2 : x.toInt ≤ 2147483647) (k : ∀ z : Int32, z.toInt = x.toInt → zc_V nL K G I lv (pc + 1) (.int z :: st)) : zc_V nL K G I lv pc (.long x :: st) := fun H locs ls hI hl => lv_l2i hB.1 hB.2.1 hd rfl (k _ (by rw [Int64.toInt_toInt32, zn_bm h1 h2]) H locs ls hI hl)
theorem zr_l2iw (hB : zc_B nL own cc G) {x : Int64} (hd : decode cc pc = .ok (.l2i, 1)) (k : ∀ z : Int32, z = x.toInt32 → zc_V nL K G I lv (pc + 1) (.int z :: st)) : zc_V nL K G I lv pc (.long x :: st) := fun H locs ls hI hl => lv_l2i hB.1 hB.2.1 hd rfl (k _ rfl H locs ls hI hl)
theorem zr_i2b (hB : zc_B nL own cc G) {x : Int32} (hd : decode cc pc = .ok (.i2b, 1)) (k : ∀ z : Int32, z = x.toInt8.toInt32 → zc_V nL K G I lv (pc + 1) (.int z :: st)) : zc_V nL K G I lv pc (.int x :: st) := fun H locs ls hI hl => lv_i2b hB.1 hB.2.1 hd rfl (k _ rfl H locs ls hI hl)
theorem zr_i2s (hB : zc_B nL own cc G) {x : Int32} (hd : decode cc pc = .ok (.i2s, 1)) (k : ∀ z : Int32, z = x.toInt16.toInt32 → zc_V nL K G I lv (pc + 1) (.int z :: st)) : zc_V nL K G I lv pc (.int x :: st) := fun H locs ls hI hl => lv_i2s hB.1 hB.2.1 hd rfl (k _ rfl H locs ls hI hl)
theorem zr_i2c (hB : zc_B nL own cc G) {x : Int32} (hd : decode cc pc = .ok (.i2c, 1)) (k : ∀ z : Int32, z = (x.toUInt32 % 65536).toInt32 → zc_V nL K G I lv (pc + 1) (.int z :: st)) : zc_V nL K G I lv pc (.int x :: st) := fun H locs ls hI hl => lv_i2c hB.1 hB.2.1 hd rfl (k _ rfl H locs ls hI hl)
theorem zr_ladd (hB : zc_B nL own cc G) {x y : Int64} (hd : decode cc pc = .ok (.ladd, 1)) (h1 : -9223372036854775808 ≤ x.toInt + y.toInt) (h2 : x.toInt + y.toInt ≤ 9223372036854775807) (k : ∀ z : Int64, z.toInt = x.toInt + y.toInt → zc_V nL K G I lv (pc + 1) (.long z :: st)) : zc_V nL K G I lv pc (.long y :: .long x :: st) := fun H locs ls hI hl => lv_ladd hB.1 hB.2.1 hd (k _ (zl_add h1 h2) H locs ls hI hl)
theorem zr_laddw (hB : zc_B nL own cc G) {x y : Int64} (hd : decode cc pc = .ok (.ladd, 1)) (k : ∀ z : Int64, z = x + y → zc_V nL K G I lv (pc + 1) (.long z :: st)) : zc_V nL K G I lv pc (.long y :: .long x :: st) := fun H locs ls hI hl => lv_ladd hB.1 hB.2.1 hd (k _ rfl H locs ls hI hl)
theorem zr_lsub (hB : zc_B nL own cc G) {x y : Int64} (hd : decode cc pc = .ok (.lsub, 1)) (h1 : -9223372036854775808 ≤ x.toInt - y.toInt) (h2 : x.toInt - y.toInt ≤ 9223372036854775807) (k : ∀ z : Int64, z.toInt = x.toInt - y.toInt → zc_V nL K G I lv (pc + 1) (.long z :: st)) : zc_V nL K G I lv pc (.long y :: .long x :: st) := fun H locs ls hI hl => lv_lsub hB.1 hB.2.1 hd (k _ (zl_sub h1 h2) H locs ls hI hl)
theorem zr_lsubw (hB : zc_B nL own cc G) {x y : Int64} (hd : decode cc pc = .ok (.lsub, 1)) (k : ∀ z : Int64, z = x - y → zc_V nL K G I lv (pc + 1) (.long z :: st)) : zc_V nL K G I lv pc (.long y :: .long x :: st) := fun H locs ls hI hl => lv_lsub hB.1 hB.2.1 hd (k _ rfl H locs ls hI hl)
theorem zr_lmul (hB : zc_B nL own cc G) {x y : Int64} (hd : decode cc pc = .ok (.lmul, 1)) (h1 : -9223372036854775808 ≤ x.toInt * y.toInt) (h2 : x.toInt * y.toInt ≤ 9223372036854775807) (k : ∀ z : Int64, z.toInt = x.toInt * y.toInt → zc_V nL K G I lv (pc + 1) (.long z :: st)) : zc_V nL K G I lv pc (.long y :: .long x :: st) := fun H locs ls hI hl => lv_lmul hB.1 hB.2.1 hd (k _ (zl_mul h1 h2) H locs ls hI hl)
theorem zr_lmulw (hB : zc_B nL own cc G) {x y : Int64} (hd : decode cc pc = .ok (.lmul, 1)) (k : ∀ z : Int64, z = x * y → zc_V nL K G I lv (pc + 1) (.long z :: st)) : zc_V nL K G I lv pc (.long y :: .long x :: st) := fun H locs ls hI hl => lv_lmul hB.1 hB.2.1 hd (k _ rfl H locs ls hI hl)
theorem zr_land (hB : zc_B nL own cc G) {x y : Int64} (hd : decode cc pc = .ok (.land, 1)) (k : ∀ z : Int64, z = x &&& y → zc_V nL K G I lv (pc + 1) (.long z :: st)) : zc_V nL K G I lv pc (.long y :: .long x :: st) := fun H locs ls hI hl => lv_land hB.1 hB.2.1 hd (k _ rfl H locs ls hI hl)
theorem zr_lor (hB : zc_B nL own cc G) {x y : Int64} (hd : decode cc pc = .ok (.lor, 1)) (k : ∀ z : Int64, z = x ||| y → zc_V nL K G I lv (pc + 1) (.long z :: st)) : zc_V nL K G I lv pc (.long y :: .long x :: st) := fun H locs ls hI hl => lv_lor hB.1 hB.2.1 hd (k _ rfl H locs ls hI hl)
theorem zr_lxor (hB : zc_B nL own cc G) {x y : Int64} (hd : decode cc pc = .ok (.lxor, 1)) (k : ∀ z : Int64, z = x ^^^ y → zc_V nL K G I lv (pc + 1) (.long z :: st)) : zc_V nL K G I lv pc (.long y :: .long x :: st) := fun H locs ls hI hl => lv_lxor hB.1 hB.2.1 hd (k _ rfl H locs ls hI hl)
theorem zr_ldivw (hB : zc_B nL own cc G) {x y : Int64} (hd : decode cc pc = .ok (.ldiv, 1)) (hy : ¬ y.toInt = 0) (k : ∀ z : Int64, z = x / y → zc_V nL K G I lv (pc + 1) (.long z :: st)) : zc_V nL K G I lv pc (.long y :: .long x :: st) := fun H locs ls hI hl => lv_ldiv hB.1 hB.2.1 hd (fun h => hy (by rw [h]; rfl)) (k _ rfl H locs ls hI hl)
theorem zr_lremw (hB : zc_B nL own cc G) {x y : Int64} (hd : decode cc pc = .ok (.lrem, 1)) (hy : ¬ y.toInt = 0) (k : ∀ z : Int64, z = x - x / y * y → zc_V nL K G I lv (pc + 1) (.long z :: st)) : zc_V nL K G I lv pc (.long y :: .long x :: st) := fun H locs ls hI hl => lv_lrem hB.1 hB.2.1 hd (fun h => hy (by rw [h]; rfl)) (k _ rfl H locs ls hI hl)
theorem zr_lushr (hB : zc_B nL own cc G) {x : Int64} {y : Int32} (hd : decode cc pc = .ok (.lushr, 1)) (k : ∀ z : Int64, z = (x.toUInt64 >>> (y.toInt64.toUInt64 &&& Int64.toUInt64 63)).toInt64 → zc_V nL K G I lv (pc + 1) (.long z :: st)) : zc_V nL K G I lv pc (.int y :: .long x :: st) := fun H locs ls hI hl => lv_lushr hB.1 hB.2.1 hd rfl (k _ rfl H locs ls hI hl)
theorem zr_lshl (hB : zc_B nL own cc G) {x : Int64} {y : Int32} (hd : decode cc pc = .ok (.lshl, 1)) (k : ∀ z : Int64, z = x <<< (y.toInt64 &&& 63) → zc_V nL K G I lv (pc + 1) (.long z :: st)) : zc_V nL K G I lv pc (.int y :: .long x :: st) := fun H locs ls hI hl => lv_lshl hB.1 hB.2.1 hd rfl (k _ rfl H locs ls hI hl)
theorem zr_lshr (hB : zc_B nL own cc G) {x : Int64} {y : Int32} (hd : decode cc pc = .ok (.lshr, 1)) (k : ∀ z : Int64, z = x >>> (y.toInt64 &&& 63) → zc_V nL K G I lv (pc + 1) (.long z :: st)) : zc_V nL K G I lv pc (.int y :: .long x :: st) := fun H locs ls hI hl => lv_lshr hB.1 hB.2.1 hd rfl (k _ rfl H locs ls hI hl)
theorem zr_dup (hB : zc_B nL own cc G) {va : Value} (hd : decode cc pc = .ok (.dup, 1)) (hv : va.category = 1) (k : zc_V nL K G I lv (pc + 1) (va :: va :: st)) : zc_V nL K G I lv pc (va :: st) := fun H locs ls hI hl => lv_dup hB.1 hB.2.1 hd hv (k H locs ls hI hl)
theorem zr_pop (hB : zc_B nL own cc G) {va : Value} (hd : decode cc pc = .ok (.pop, 1)) (hv : va.category = 1) (k : zc_V nL K G I lv (pc + 1) st) : zc_V nL K G I lv pc (va :: st) := fun H locs ls hI hl => lv_pop hB.1 hB.2.1 hd hv (k H locs ls hI hl)
theorem zr_dup2 (hB : zc_B nL own cc G) {va vb : Value} (hd : decode cc pc = .ok (.dup2, 1)) (hv : va.category = 1) (hw : vb.category = 1) (k : zc_V nL K G I lv (pc + 1) (va :: vb :: va :: vb :: st)) : zc_V nL K G I lv pc (va :: vb :: st) := fun H locs ls hI hl => lv_dup2_11 hB.1 hB.2.1 hd hv hw (k H locs ls hI hl)
theorem zr_dup_x1 (hB : zc_B nL own cc G) {va vb : Value} (hd : decode cc pc = .ok (.dup_x1, 1)) (hv : va.category = 1) (hw : vb.category = 1) (k : zc_V nL K G I lv (pc + 1) (va :: vb :: va :: st)) : zc_V nL K G I lv pc (va :: vb :: st) := fun H locs ls hI hl => lv_dup_x1 hB.1 hB.2.1 hd hv hw (k H locs ls hI hl)
theorem zr_if_eq (hB : zc_B nL own cc G) {x : Int32} (hd : decode cc pc = .ok (.ifCond .eq off, 3)) (ht : (pc : Int) + off = (tgt : Int)) (kt : x.toInt = 0 → zc_V nL K G I lv tgt st) (kf : ¬ x.toInt = 0 → zc_V nL K G I lv (pc + 3) st) : zc_V nL K G I lv pc (.int x :: st) := by
  intro H locs ls hI hl
  refine lv_if_eq hB.1 hB.2.1 hd ht (fun h => kt ?_ H locs ls hI hl) (fun h => kf ?_ H locs ls hI hl)
  all_goals (simp only [ne_eq, zn_eq, zn_lt, zn_le, Int32.toInt_zero] at h; omega)
theorem zr_icmp_eq (hB : zc_B nL own cc G) {x y : Int32} (hd : decode cc pc = .ok (.if_icmp .eq off, 3)) (ht : (pc : Int) + off = (tgt : Int)) (kt : x.toInt = y.toInt → zc_V nL K G I lv tgt st) (kf : ¬ x.toInt = y.toInt → zc_V nL K G I lv (pc + 3) st) : zc_V nL K G I lv pc (.int y :: .int x :: st) := by
  intro H locs ls hI hl
  refine lv_icmp_eq hB.1 hB.2.1 hd ht (fun h => kt ?_ H locs ls hI hl) (fun h => kf ?_ H locs ls hI hl)
  all_goals (simp only [ne_eq, zn_eq, zn_lt, zn_le] at h; omega)
theorem zr_lcmp_eq (hB : zc_B nL own cc G) {x y : Int64} (h0 : decode cc pc = .ok (.lcmp, 1)) (hd : decode cc (pc + 1) = .ok (.ifCond .eq off, 3)) (ht : ((pc + 1 : Nat) : Int) + off = (tgt : Int)) (kt : x.toInt = y.toInt → zc_V nL K G I lv tgt st) (kf : ¬ x.toInt = y.toInt → zc_V nL K G I lv (pc + 4) st) : zc_V nL K G I lv pc (.long y :: .long x :: st) := by
  intro H locs ls hI hl
  refine W.lcmp hB.1 hB.2.1 h0 (lv_if_eq hB.1 hB.2.1 hd ht (fun h => kt ?_ H locs ls hI hl) (fun h => kf ?_ H locs ls hI hl))
  all_goals (unfold lg_cmp at h; split at h <;> (try split at h) <;> simp_all [zl_eq, zl_lt, zl_le] <;> omega)
theorem zr_if_ne (hB : zc_B nL own cc G) {x : Int32} (hd : decode cc pc = .ok (.ifCond .ne off, 3)) (ht : (pc : Int) + off = (tgt : Int)) (kt : ¬ x.toInt = 0 → zc_V nL K G I lv tgt st) (kf : x.toInt = 0 → zc_V nL K G I lv (pc + 3) st) : zc_V nL K G I lv pc (.int x :: st) := by
  intro H locs ls hI hl
  refine lv_if_ne hB.1 hB.2.1 hd ht (fun h => kt ?_ H locs ls hI hl) (fun h => kf ?_ H locs ls hI hl)
  all_goals (simp only [ne_eq, zn_eq, zn_lt, zn_le, Int32.toInt_zero] at h; omega)
theorem zr_icmp_ne (hB : zc_B nL own cc G) {x y : Int32} (hd : decode cc pc = .ok (.if_icmp .ne off, 3)) (ht : (pc : Int) + off = (tgt : Int)) (kt : ¬ x.toInt = y.toInt → zc_V nL K G I lv tgt st) (kf : x.toInt = y.toInt → zc_V nL K G I lv (pc + 3) st) : zc_V nL K G I lv pc (.int y :: .int x :: st) := by
  intro H locs ls hI hl
  refine lv_icmp_ne hB.1 hB.2.1 hd ht (fun h => kt ?_ H locs ls hI hl) (fun h => kf ?_ H locs ls hI hl)
  all_goals (simp only [ne_eq, zn_eq, zn_lt, zn_le] at h; omega)
theorem zr_lcmp_ne (hB : zc_B nL own cc G) {x y : Int64} (h0 : decode cc pc = .ok (.lcmp, 1)) (hd : decode cc (pc + 1) = .ok (.ifCond .ne off, 3)) (ht : ((pc + 1 : Nat) : Int) + off = (tgt : Int)) (kt : ¬ x.toInt = y.toInt → zc_V nL K G I lv tgt st) (kf : x.toInt = y.toInt → zc_V nL K G I lv (pc + 4) st) : zc_V nL K G I lv pc (.long y :: .long x :: st) := by
  intro H locs ls hI hl
  refine W.lcmp hB.1 hB.2.1 h0 (lv_if_ne hB.1 hB.2.1 hd ht (fun h => kt ?_ H locs ls hI hl) (fun h => kf ?_ H locs ls hI hl))
  all_goals (unfold lg_cmp at h; split at h <;> (try split at h) <;> simp_all [zl_eq, zl_lt, zl_le] <;> omega)
theorem zr_if_lt (hB : zc_B nL own cc G) {x : Int32} (hd : decode cc pc = .ok (.ifCond .lt off, 3)) (ht : (pc : Int) + off = (tgt : Int)) (kt : x.toInt < 0 → zc_V nL K G I lv tgt st) (kf : 0 ≤ x.toInt → zc_V nL K G I lv (pc + 3) st) : zc_V nL K G I lv pc (.int x :: st) := by
  intro H locs ls hI hl
  refine lv_if_lt hB.1 hB.2.1 hd ht (fun h => kt ?_ H locs ls hI hl) (fun h => kf ?_ H locs ls hI hl)
  all_goals (simp only [ne_eq, zn_eq, zn_lt, zn_le, Int32.toInt_zero] at h; omega)
theorem zr_icmp_lt (hB : zc_B nL own cc G) {x y : Int32} (hd : decode cc pc = .ok (.if_icmp .lt off, 3)) (ht : (pc : Int) + off = (tgt : Int)) (kt : x.toInt < y.toInt → zc_V nL K G I lv tgt st) (kf : y.toInt ≤ x.toInt → zc_V nL K G I lv (pc + 3) st) : zc_V nL K G I lv pc (.int y :: .int x :: st) := by
  intro H locs ls hI hl
  refine lv_icmp_lt hB.1 hB.2.1 hd ht (fun h => kt ?_ H locs ls hI hl) (fun h => kf ?_ H locs ls hI hl)
  all_goals (simp only [ne_eq, zn_eq, zn_lt, zn_le] at h; omega)
theorem zr_lcmp_lt (hB : zc_B nL own cc G) {x y : Int64} (h0 : decode cc pc = .ok (.lcmp, 1)) (hd : decode cc (pc + 1) = .ok (.ifCond .lt off, 3)) (ht : ((pc + 1 : Nat) : Int) + off = (tgt : Int)) (kt : x.toInt < y.toInt → zc_V nL K G I lv tgt st) (kf : y.toInt ≤ x.toInt → zc_V nL K G I lv (pc + 4) st) : zc_V nL K G I lv pc (.long y :: .long x :: st) := by
  intro H locs ls hI hl
  refine W.lcmp hB.1 hB.2.1 h0 (lv_if_lt hB.1 hB.2.1 hd ht (fun h => kt ?_ H locs ls hI hl) (fun h => kf ?_ H locs ls hI hl))
  all_goals (unfold lg_cmp at h; split at h <;> (try split at h) <;> simp_all [zl_eq, zl_lt, zl_le] <;> omega)
theorem zr_if_ge (hB : zc_B nL own cc G) {x : Int32} (hd : decode cc pc = .ok (.ifCond .ge off, 3)) (ht : (pc : Int) + off = (tgt : Int)) (kt : 0 ≤ x.toInt → zc_V nL K G I lv tgt st) (kf : x.toInt < 0 → zc_V nL K G I lv (pc + 3) st) : zc_V nL K G I lv pc (.int x :: st) := by
  intro H locs ls hI hl
  refine lv_if_ge hB.1 hB.2.1 hd ht (fun h => kt ?_ H locs ls hI hl) (fun h => kf ?_ H locs ls hI hl)
  all_goals (simp only [ne_eq, zn_eq, zn_lt, zn_le, Int32.toInt_zero] at h; omega)
theorem zr_icmp_ge (hB : zc_B nL own cc G) {x y : Int32} (hd : decode cc pc = .ok (.if_icmp .ge off, 3)) (ht : (pc : Int) + off = (tgt : Int)) (kt : y.toInt ≤ x.toInt → zc_V nL K G I lv tgt st) (kf : x.toInt < y.toInt → zc_V nL K G I lv (pc + 3) st) : zc_V nL K G I lv pc (.int y :: .int x :: st) := by
  intro H locs ls hI hl
  refine lv_icmp_ge hB.1 hB.2.1 hd ht (fun h => kt ?_ H locs ls hI hl) (fun h => kf ?_ H locs ls hI hl)
  all_goals (simp only [ne_eq, zn_eq, zn_lt, zn_le] at h; omega)
theorem zr_lcmp_ge (hB : zc_B nL own cc G) {x y : Int64} (h0 : decode cc pc = .ok (.lcmp, 1)) (hd : decode cc (pc + 1) = .ok (.ifCond .ge off, 3)) (ht : ((pc + 1 : Nat) : Int) + off = (tgt : Int)) (kt : y.toInt ≤ x.toInt → zc_V nL K G I lv tgt st) (kf : x.toInt < y.toInt → zc_V nL K G I lv (pc + 4) st) : zc_V nL K G I lv pc (.long y :: .long x :: st) := by
  intro H locs ls hI hl
  refine W.lcmp hB.1 hB.2.1 h0 (lv_if_ge hB.1 hB.2.1 hd ht (fun h => kt ?_ H locs ls hI hl) (fun h => kf ?_ H locs ls hI hl))
  all_goals (unfold lg_cmp at h; split at h <;> (try split at h) <;> simp_all [zl_eq, zl_lt, zl_le] <;> omega)
theorem zr_if_gt (hB : zc_B nL own cc G) {x : Int32} (hd : decode cc pc = .ok (.ifCond .gt off, 3)) (ht : (pc : Int) + off = (tgt : Int)) (kt : 0 < x.toInt → zc_V nL K G I lv tgt st) (kf : x.toInt ≤ 0 → zc_V nL K G I lv (pc + 3) st) : zc_V nL K G I lv pc (.int x :: st) := by
  intro H locs ls hI hl
  refine lv_if_gt hB.1 hB.2.1 hd ht (fun h => kt ?_ H locs ls hI hl) (fun h => kf ?_ H locs ls hI hl)
  all_goals (simp only [ne_eq, zn_eq, zn_lt, zn_le, Int32.toInt_zero] at h; omega)
theorem zr_icmp_gt (hB : zc_B nL own cc G) {x y : Int32} (hd : decode cc pc = .ok (.if_icmp .gt off, 3)) (ht : (pc : Int) + off = (tgt : Int)) (kt : y.toInt < x.toInt → zc_V nL K G I lv tgt st) (kf : x.toInt ≤ y.toInt → zc_V nL K G I lv (pc + 3) st) : zc_V nL K G I lv pc (.int y :: .int x :: st) := by
  intro H locs ls hI hl
  refine lv_icmp_gt hB.1 hB.2.1 hd ht (fun h => kt ?_ H locs ls hI hl) (fun h => kf ?_ H locs ls hI hl)
  all_goals (simp only [ne_eq, zn_eq, zn_lt, zn_le] at h; omega)
theorem zr_lcmp_gt (hB : zc_B nL own cc G) {x y : Int64} (h0 : decode cc pc = .ok (.lcmp, 1)) (hd : decode cc (pc + 1) = .ok (.ifCond .gt off, 3)) (ht : ((pc + 1 : Nat) : Int) + off = (tgt : Int)) (kt : y.toInt < x.toInt → zc_V nL K G I lv tgt st) (kf : x.toInt ≤ y.toInt → zc_V nL K G I lv (pc + 4) st) : zc_V nL K G I lv pc (.long y :: .long x :: st) := by
  intro H locs ls hI hl
  refine W.lcmp hB.1 hB.2.1 h0 (lv_if_gt hB.1 hB.2.1 hd ht (fun h => kt ?_ H locs ls hI hl) (fun h => kf ?_ H locs ls hI hl))
  all_goals (unfold lg_cmp at h; split at h <;> (try split at h) <;> simp_all [zl_eq, zl_lt, zl_le] <;> omega)
theorem zr_if_le (hB : zc_B nL own cc G) {x : Int32} (hd : decode cc pc = .ok (.ifCond .le off, 3)) (ht : (pc : Int) + off = (tgt : Int)) (kt : x.toInt ≤ 0 → zc_V nL K G I lv tgt st) (kf : 0 < x.toInt → zc_V nL K G I lv (pc + 3) st) : zc_V nL K G I lv pc (.int x :: st) := by
  intro H locs ls hI hl
  refine lv_if_le hB.1 hB.2.1 hd ht (fun h => kt ?_ H locs ls hI hl) (fun h => kf ?_ H locs ls hI hl)
  all_goals (simp only [ne_eq, zn_eq, zn_lt, zn_le, Int32.toInt_zero] at h; omega)
theorem zr_icmp_le (hB : zc_B nL own cc G) {x y : Int32} (hd : decode cc pc = .ok (.if_icmp .le off, 3)) (ht : (pc : Int) + off = (tgt : Int)) (kt : x.toInt ≤ y.toInt → zc_V nL K G I lv tgt st) (kf : y.toInt < x.toInt → zc_V nL K G I lv (pc + 3) st) : zc_V nL K G I lv pc (.int y :: .int x :: st) := by
  intro H locs ls hI hl
  refine lv_icmp_le hB.1 hB.2.1 hd ht (fun h => kt ?_ H locs ls hI hl) (fun h => kf ?_ H locs ls hI hl)
  all_goals (simp only [ne_eq, zn_eq, zn_lt, zn_le] at h; omega)
theorem zr_lcmp_le (hB : zc_B nL own cc G) {x y : Int64} (h0 : decode cc pc = .ok (.lcmp, 1)) (hd : decode cc (pc + 1) = .ok (.ifCond .le off, 3)) (ht : ((pc + 1 : Nat) : Int) + off = (tgt : Int)) (kt : x.toInt ≤ y.toInt → zc_V nL K G I lv tgt st) (kf : y.toInt < x.toInt → zc_V nL K G I lv (pc + 4) st) : zc_V nL K G I lv pc (.long y :: .long x :: st) := by
  intro H locs ls hI hl
  refine W.lcmp hB.1 hB.2.1 h0 (lv_if_le hB.1 hB.2.1 hd ht (fun h => kt ?_ H locs ls hI hl) (fun h => kf ?_ H locs ls hI hl))
  all_goals (unfold lg_cmp at h; split at h <;> (try split at h) <;> simp_all [zl_eq, zl_lt, zl_le] <;> omega)
theorem zr_goto (hB : zc_B nL own cc G) (hd : decode cc pc = .ok (.goto off, 3)) (ht : (pc : Int) + off = (tgt : Int)) (k : zc_V nL K G I lv tgt st) : zc_V nL K G I lv pc st := fun H locs ls hI hl => lv_goto hB.1 hB.2.1 hd ht (k H locs ls hI hl)
theorem zr_tabOut (hB : zc_B nL own cc G) {dflt lo hi : Int} {offs : Array Int} {len : Nat} {x : Int32} (hd : decode cc pc = .ok (.tableswitch dflt lo hi offs, len)) (h : x.toInt < lo ∨ hi < x.toInt) (ht : (pc : Int) + dflt = (tgt : Int)) (k : zc_V nL K G I lv tgt st) : zc_V nL K G I lv pc (.int x :: st) := fun H locs ls hI hl => lv_tableOut hB.1 hB.2.1 hd h ht (k H locs ls hI hl)
theorem zr_tabIn (hB : zc_B nL own cc G) {dflt lo hi : Int} {offs : Array Int} {len : Nat} {x : Int32} (i : Nat) (hd : decode cc pc = .ok (.tableswitch dflt lo hi offs, len)) (hx : x.toInt - lo = i) (h2 : x.toInt ≤ hi) (ho : offs[i]? = some off) (ht : (pc : Int) + off = (tgt : Int)) (k : zc_V nL K G I lv tgt st) : zc_V nL K G I lv pc (.int x :: st) := fun H locs ls hI hl => lv_tableIn hB.1 hB.2.1 hd (by omega) (by omega) (by rw [hx]; exact ho) ht (k H locs ls hI hl)
end ZR
abbrev zk (K : zc_K) (k : Nat) : Nat := K.2.2.2.1 k
abbrev zz (K : zc_K) (k : Nat) : Nat := K.2.2.2.2 k
def zc_F (own : String) (idx ci j : Nat) : Prop := ∃ (C : String) (T : u_T) (N : Nat), vwCl[ci]? = some (C, T, N) ∧ j < N ∧ (∀ w ∈ u_ws C T N, w ∈ lw_good) ∧ ((Cond.fieldLink own idx (T j).1 (T j).2.1 (T j).2.2.1 ∈ lw_good) ∨ ∃ host, Cond.fieldLinkNest own idx (T j).1 (T j).2.1 (T j).2.2.1 host ∈ lw_nest)
def zc_Fp (own : String) (idx ci j : Nat) : Prop := ∃ (C : String) (T : u_T) (N : Nat) (ty0 : Nat → FieldType), vwCl[ci]? = some (C, T, N) ∧ j < N ∧ (∀ w ∈ u_ws C T N, w ∈ lw_good) ∧ ((Cond.fieldLink own idx (T j).1 (T j).2.1 (T j).2.2.1 ∈ lw_good) ∨ ∃ host, Cond.fieldLinkNest own idx (T j).1 (T j).2.1 (T j).2.2.1 host ∈ lw_nest) ∧ (∀ k, k < N → parseFieldDescriptor (T k).2.2.1 = some (ty0 k)) ∧ (∀ a, a < N → ∀ b, b < N → a ≠ b → (T a).2.1 ≠ (T b).2.1) ∧ (T j).2.2.2 = false ∧ parseFieldDescriptor (T j).2.2.1 = some .int
def zc_Lk (own : String) (idx : Nat) (y : MethodName) (cc : ByteArray) (nL : Nat) (rt : Option FieldType) (n : Nat) : Prop := Cond.code y cc nL rt ∈ lw_good ∧ Cond.initialized y.cls ∈ lw_good ∧ (y.cls ≠ "java/lang/invoke/MethodHandle" ∧ y.cls ≠ "java/lang/invoke/VarHandle" ∧ (parseMethodDescriptor y.desc).map (fun d => d.parameters.length) = some n) ∧ ((Cond.methodLink own idx y ∈ lw_good) ∨ ∃ host, Cond.methodLinkNest own idx y host ∈ lw_nest)
def zc_Lv (own : String) (idx : Nat) (y : MethodName) (cc : ByteArray) (nL : Nat) (rt : Option FieldType) (n : Nat) : Prop := zc_Lk own idx y cc nL rt n ∧ Cond.instanceMethod y ∈ lw_good ∧ Cond.selects y.cls y y ∈ lw_good
def zc_Ls (own : String) (idx : Nat) (y : MethodName) (cc : ByteArray) (nL : Nat) (rt : Option FieldType) (n : Nat) : Prop := zc_Lk own idx y cc nL rt n ∧ Cond.static y ∈ lw_good
def zc_I (P : Int32 → zc_S → Prop) : Option Value → zc_S → Prop := fun r σ => ∃ z : Int32, r = some (.int z) ∧ P z σ
def zc_J (P : Int64 → zc_S → Prop) : Option Value → zc_S → Prop := fun r σ => ∃ z : Int64, r = some (.long z) ∧ P z σ
def zc_N (P : zc_S → Prop) : Option Value → zc_S → Prop := fun r σ => r = none ∧ P σ
def zc_rm (rm rm' : Room) (nL : Nat) : Prop := rm'.frames + 1 ≤ rm.frames ∧ 8 + (nL + 11) + rm'.locals ≤ rm.locals ∧ rm'.cells = 0 ∧ rm'.slots = 0
theorem zc_good {w : Cond} (h : w ∈ lw_good) : (w.onTables && w.keeps) = true ∨ ∃ ty, w = .arrayClass ty := good_of_word (List.mem_filter.mp h).2
theorem zc_gin {y : MethodName} {cc : ByteArray} {nL : Nat} {rt : Option FieldType} (h : Cond.code y cc nL rt ∈ lw_good) : GoodIn lw_good (Cond.code y cc nL rt :: lw_good) := by
  intro w hw
  rcases List.mem_cons.mp hw with rfl | hw
  · exact ⟨h, zc_good h⟩
  · exact ⟨hw, zc_good hw⟩
section ZH
variable {sh : List zc_H} {nL : Nat} {own : String} {cc : ByteArray} {rt : Option FieldType} {rm : Room} {post : Option Value → zc_S → Prop} {K : zc_K} {G : zc_X} {σ : zc_S} {lv lv' : List (Nat × Value)} {pc tgt : Nat} {st : List Value}
theorem zr_geti (hG : zc_G sh nL own cc rt rm post K G) {idx ci : Nat} {fl : List (Option Nat)} (k j : Nat) (hd : decode cc pc = .ok (.getfield idx, 3)) (hk : sh[k]? = some (.inl (ci, fl))) (hF : zc_F own idx ci j) (hj : fl[j]? = some none) (kk : ∀ z : Int32, z = σ.1 k j → zc_V nL K G (zc_D sh K G σ) lv (pc + 3) (.int z :: st)) : zc_V nL K G (zc_D sh K G σ) lv pc (.ref (zk K k) :: st) := by
  intro H locs ls hI hl
  obtain ⟨C, T, N, hc, hjN, hin, hlink⟩ := hF
  obtain ⟨hB, hR, hlk, hRm, hK, hi, hZ, hQ, h0, h1⟩ := hG
  have he : (zc_W sh K.2.2.1 K.2.2.2.1 σ)[k]? = some (K.2.2.2.1 k, .inr (ci, fl.mapIdx (fun j f => match f with | some r => Value.ref (K.2.2.2.1 r) | none => .int (σ.1 k j)))) := zc_at hk
  have hv : (fl.mapIdx (fun j f => match f with | some r => Value.ref (K.2.2.2.1 r) | none => .int (σ.1 k j)))[j]? = some (.int (σ.1 k j)) := by rw [List.getElem?_mapIdx, hj]; rfl
  rcases hlink with hw | ⟨host, hw⟩
  · exact va_get hB.1 hB.2.1 hB.2.2.2.2 hin hB.2.2.2.1 hK hI.1 k he hc j hjN (hB.2.2.2.2 _ hw) (fun _ h9 => h9) hv hd (kk _ rfl H locs ls hI hl)
  · exact va_getN hB.1 hB.2.1 hB.2.2.2.2 hin hB.2.2.2.1 hK hI.1 k he hc j hjN (zc_Nuse hw (hZ.1 _ hw)) (fun _ h9 => h9) hv hd (kk _ rfl H locs ls hI hl)
theorem zr_getr (hG : zc_G sh nL own cc rt rm post K G) {idx ci r : Nat} {fl : List (Option Nat)} (k j : Nat) (hd : decode cc pc = .ok (.getfield idx, 3)) (hk : sh[k]? = some (.inl (ci, fl))) (hF : zc_F own idx ci j) (hj : fl[j]? = some (some r)) (kk : zc_V nL K G (zc_D sh K G σ) lv (pc + 3) (.ref (zk K r) :: st)) : zc_V nL K G (zc_D sh K G σ) lv pc (.ref (zk K k) :: st) := by
  intro H locs ls hI hl
  obtain ⟨C, T, N, hc, hjN, hin, hlink⟩ := hF
  obtain ⟨hB, hR, hlk, hRm, hK, hi, hZ, hQ, h0, h1⟩ := hG
  have he : (zc_W sh K.2.2.1 K.2.2.2.1 σ)[k]? = some (K.2.2.2.1 k, .inr (ci, fl.mapIdx (fun j f => match f with | some r => Value.ref (K.2.2.2.1 r) | none => .int (σ.1 k j)))) := zc_at hk
  have hv : (fl.mapIdx (fun j f => match f with | some r => Value.ref (K.2.2.2.1 r) | none => .int (σ.1 k j)))[j]? = some (.ref (K.2.2.2.1 r)) := by rw [List.getElem?_mapIdx, hj]; rfl
  rcases hlink with hw | ⟨host, hw⟩
  · exact va_get hB.1 hB.2.1 hB.2.2.2.2 hin hB.2.2.2.1 hK hI.1 k he hc j hjN (hB.2.2.2.2 _ hw) (fun _ h9 => h9) hv hd (kk H locs ls hI hl)
  · exact va_getN hB.1 hB.2.1 hB.2.2.2.2 hin hB.2.2.2.1 hK hI.1 k he hc j hjN (zc_Nuse hw (hZ.1 _ hw)) (fun _ h9 => h9) hv hd (kk H locs ls hI hl)
theorem zr_puti (hG : zc_G sh nL own cc rt rm post K G) {idx ci : Nat} {fl : List (Option Nat)} {x : Int32} (k j : Nat) (hd : decode cc pc = .ok (.putfield idx, 3)) (hk : sh[k]? = some (.inl (ci, fl))) (hF : zc_Fp own idx ci j) (hj : fl[j]? = some none) (kk : zc_V nL K G (zc_D sh K G (zc_u σ k j x)) lv (pc + 3) st) : zc_V nL K G (zc_D sh K G σ) lv pc (.int x :: .ref (zk K k) :: st) := by
  intro H locs ls hI hl
  obtain ⟨C, T, N, ty0, hc, hjN, hin, hlink, hty, hnm, hfin, hpd⟩ := hF
  obtain ⟨hB, hR, hlk, hRm, hK, hi, hZ, hQ, h0, h1⟩ := hG
  have he : (zc_W sh K.2.2.1 K.2.2.2.1 σ)[k]? = some (K.2.2.2.1 k, .inr (ci, fl.mapIdx (fun j f => match f with | some r => Value.ref (K.2.2.2.1 r) | none => .int (σ.1 k j)))) := zc_at hk
  have hjl : j < fl.length := (List.getElem?_eq_some_iff.mp hj).1
  have hset : (zc_W sh K.2.2.1 K.2.2.2.1 σ).set k (K.2.2.2.1 k, .inr (ci, (fl.mapIdx (fun j f => match f with | some r => Value.ref (K.2.2.2.1 r) | none => .int (σ.1 k j))).set j (.int x))) = zc_W sh K.2.2.1 K.2.2.2.1 (zc_u σ k j x) := by
    refine zc_set hk ?_ (fun k' h => zc_u_ne σ k j x h) (fun k' h => rfl)
    show _ = Sum.inr (ci, fl.mapIdx (fun j' f => match f with | some r => Value.ref (K.2.2.2.1 r) | none => .int ((zc_u σ k j x).1 k j')))
    congr 2
    apply List.ext_getElem?
    intro i
    by_cases hij : i = j
    · subst hij
      rw [List.getElem?_set_self (by rw [List.length_mapIdx]; exact hjl), List.getElem?_mapIdx, hj]
      simp [zc_u]
    · rw [List.getElem?_set_ne (Ne.symm hij), List.getElem?_mapIdx, List.getElem?_mapIdx]
      cases fl[i]? with
      | none => rfl
      | some f =>
        cases f with
        | none => simp [zc_u, hij]
        | some r => rfl
  have hD : va_D (zc_A sh K.2.2.2.1) (zc_W sh K.2.2.1 K.2.2.2.1 σ) := zc_D' hi
  rcases hlink with hw | ⟨host, hw⟩
  · exact va_put hB.1 hB.2.1 hB.2.2.2.2 hin ty0 hty hnm hB.2.2.2.1 hK hI.1 hD hI.2 k he hc j hjN (hB.2.2.2.2 _ hw) (fun _ h9 => h9) hfin hpd (by rfl) (by rfl) (by rw [List.length_mapIdx]; exact hjl) hd (fun H1 locs1 hP hD hS => kk H1 locs1 ls ⟨by rw [← hset]; exact hP, hS⟩ hl)
  · exact va_putN hB.1 hB.2.1 hB.2.2.2.2 hin ty0 hty hnm hB.2.2.2.1 hK hI.1 hD hI.2 k he hc j hjN (zc_Nuse hw (hZ.1 _ hw)) (fun _ h9 => h9) hfin hpd (by rfl) (by rfl) (by rw [List.length_mapIdx]; exact hjl) hd (fun H1 locs1 hP hD hS => kk H1 locs1 ls ⟨by rw [← hset]; exact hP, hS⟩ hl)
theorem zr_iald (hG : zc_G sh nL own cc rt rm post K G) {n : Nat} {i : Int32} (k : Nat) (hd : decode cc pc = .ok (.iaload, 1)) (hk : sh[k]? = some (.inr (0, n, false))) (h1 : 0 ≤ i.toInt) (h2 : i.toInt < n) (kk : ∀ z : Int32, z = σ.1 k i.toInt.toNat → zc_V nL K G (zc_D sh K G σ) lv (pc + 1) (.int z :: st)) : zc_V nL K G (zc_D sh K G σ) lv pc (.int i :: .ref (zk K k) :: st) := fun H locs ls hI hl => va_iald hG.1.1 hG.1.2.1 hG.2.2.2.2.1 hI.1 k 0 (zc_at hk) rfl (zn_in h1 h2) hd (kk _ rfl H locs ls hI hl)
theorem zr_zald (hG : zc_G sh nL own cc rt rm post K G) {n : Nat} {i : Int32} (k : Nat) (hd : decode cc pc = .ok (.baload, 1)) (hk : sh[k]? = some (.inr (1, n, false))) (h1 : 0 ≤ i.toInt) (h2 : i.toInt < n) (kk : ∀ z : Int32, z = σ.1 k i.toInt.toNat → zc_V nL K G (zc_D sh K G σ) lv (pc + 1) (.int z :: st)) : zc_V nL K G (zc_D sh K G σ) lv pc (.int i :: .ref (zk K k) :: st) := fun H locs ls hI hl => va_zald hG.1.1 hG.1.2.1 hG.2.2.2.2.1 hI.1 k 1 (zc_at hk) rfl (zn_in h1 h2) hd (kk _ rfl H locs ls hI hl)
theorem zr_lald (hG : zc_G sh nL own cc rt rm post K G) {n : Nat} {i : Int32} (k : Nat) (hd : decode cc pc = .ok (.laload, 1)) (hk : sh[k]? = some (.inr (2, n, true))) (h1 : 0 ≤ i.toInt) (h2 : i.toInt < n) (kk : ∀ z : Int64, z = σ.2 k i.toInt.toNat → zc_V nL K G (zc_D sh K G σ) lv (pc + 1) (.long z :: st)) : zc_V nL K G (zc_D sh K G σ) lv pc (.int i :: .ref (zk K k) :: st) := fun H locs ls hI hl => va_lald hG.1.1 hG.1.2.1 hG.2.2.2.2.1 hI.1 k 2 (zc_at hk) rfl (zn_in h1 h2) hd (kk _ rfl H locs ls hI hl)
theorem zr_alen (hG : zc_G sh nL own cc rt rm post K G) {t n : Nat} {b : Bool} {m : Int} {ty : FieldType} (k : Nat) (hd : decode cc pc = .ok (.arraylength, 1)) (hk : sh[k]? = some (.inr (t, n, b))) (ht : (zc_ty K.2.2.1)[t]? = some (K.2.2.1 t, ty)) (hm : (Int32.ofNat n).toInt = m) (kk : ∀ z : Int32, z.toInt = m → zc_V nL K G (zc_D sh K G σ) lv (pc + 1) (.int z :: st)) : zc_V nL K G (zc_D sh K G σ) lv pc (.ref (zk K k) :: st) := by
  intro H locs ls hI hl
  cases b
  · exact va_alen hG.1.1 hG.1.2.1 hG.2.2.2.2.1 hI.1 k t (zc_at hk) ht rfl hd (kk _ hm H locs ls hI hl)
  · exact va_alen hG.1.1 hG.1.2.1 hG.2.2.2.2.1 hI.1 k t (zc_at hk) ht rfl hd (kk _ hm H locs ls hI hl)
theorem zr_iast (hG : zc_G sh nL own cc rt rm post K G) {n : Nat} {i x : Int32} (k : Nat) (hd : decode cc pc = .ok (.iastore, 1)) (hk : sh[k]? = some (.inr (0, n, false))) (h1 : 0 ≤ i.toInt) (h2 : i.toInt < n) (kk : zc_V nL K G (zc_D sh K G (zc_u σ k i.toInt.toNat x)) lv (pc + 1) st) : zc_V nL K G (zc_D sh K G σ) lv pc (.int x :: .int i :: .ref (zk K k) :: st) := by
  intro H locs ls hI hl
  refine va_iast hG.1.1 hG.1.2.1 hG.2.2.2.2.1 hI.1 (zc_D' hG.2.2.2.2.2.1) hI.2 k 0 (zc_at hk) rfl (zn_in h1 h2) hd (fun H1 locs1 hP hD hS => kk H1 locs1 ls ⟨?_, hS⟩ hl)
  rw [zc_set (τ := zc_u σ k i.toInt.toNat x) hk (by simp only [zc_E, zc_u_at]; rfl) (fun k' h => zc_u_ne σ k _ x h) (fun k' h => rfl)] at hP
  exact hP
theorem zr_zast (hG : zc_G sh nL own cc rt rm post K G) {n : Nat} {i x : Int32} (k : Nat) (hd : decode cc pc = .ok (.bastore, 1)) (hk : sh[k]? = some (.inr (1, n, false))) (h1 : 0 ≤ i.toInt) (h2 : i.toInt < n) (h3 : 0 ≤ x.toInt) (h4 : x.toInt ≤ 1) (kk : zc_V nL K G (zc_D sh K G (zc_u σ k i.toInt.toNat x)) lv (pc + 1) st) : zc_V nL K G (zc_D sh K G σ) lv pc (.int x :: .int i :: .ref (zk K k) :: st) := by
  intro H locs ls hI hl
  have hx : vp_nar .boolean x = x := by
    have h : x = 0 ∨ x = 1 := by
      rcases (show x.toInt = 0 ∨ x.toInt = 1 by omega) with h | h
      · exact Or.inl ((zn_eq _ _).mpr h)
      · exact Or.inr ((zn_eq _ _).mpr h)
    rcases h with rfl | rfl <;> rfl
  refine va_zast hG.1.1 hG.1.2.1 hG.2.2.2.2.1 hI.1 (zc_D' hG.2.2.2.2.2.1) hI.2 k 1 (zc_at hk) rfl (zn_in h1 h2) hd (fun H1 locs1 hP hD hS => kk H1 locs1 ls ⟨?_, hS⟩ hl)
  rw [hx] at hP
  rw [zc_set (τ := zc_u σ k i.toInt.toNat x) hk (by simp only [zc_E, zc_u_at]; rfl) (fun k' h => zc_u_ne σ k _ x h) (fun k' h => rfl)] at hP
  exact hP
theorem zr_last (hG : zc_G sh nL own cc rt rm post K G) {n : Nat} {i : Int32} {x : Int64} (k : Nat) (hd : decode cc pc = .ok (.lastore, 1)) (hk : sh[k]? = some (.inr (2, n, true))) (h1 : 0 ≤ i.toInt) (h2 : i.toInt < n) (kk : zc_V nL K G (zc_D sh K G (zc_ul σ k i.toInt.toNat x)) lv (pc + 1) st) : zc_V nL K G (zc_D sh K G σ) lv pc (.long x :: .int i :: .ref (zk K k) :: st) := by
  intro H locs ls hI hl
  refine va_last hG.1.1 hG.1.2.1 hG.2.2.2.2.1 hI.1 (zc_D' hG.2.2.2.2.2.1) hI.2 k 2 (zc_at hk) rfl (zn_in h1 h2) hd (fun H1 locs1 hP hD hS => kk H1 locs1 ls ⟨?_, hS⟩ hl)
  rw [zc_set (σ := σ) (τ := zc_ul σ k i.toInt.toNat x) hk (by simp only [zc_E, zc_ul_at]; rfl) (fun k' h => rfl) (fun k' h => zc_ul_ne σ k _ x h)] at hP
  exact hP
theorem zc_blind {av : List Value} : FrameBlind (zc_Pc sh K σ av) := fun a U g mk q => by
  obtain ⟨e, hP, hK, hZ⟩ := q
  exact ⟨e, hP, va_K.moved (u := U) (U := U.calling g mk a) (Vm.Alike.refl U.vm) hK, hZ.calling g mk a⟩
theorem zr_callv (hG : zc_G sh nL own cc rt rm post K G) {idx n ci nL' : Nat} {y : MethodName} {cc' : ByteArray} {rt' : Option FieldType} {rm' : Room} {post' : Option Value → zc_S → Prop} {fl : List (Option Nat)} {As rest : List Value} (k : Nat) (hd : decode cc pc = .ok (.invokevirtual idx, 3)) (hL : zc_Lv own idx y cc' nL' rt' n) (hk : sh[k]? = some (.inl (ci, fl))) (hc : (vwCl[ci]?).map (fun q => q.1) = some y.cls)
    (hM : zc_M sh K y cc' nL' rt' rm' σ (.ref (zk K k) :: As) post') (hn : As.length = n) (hst : st = As.reverse ++ .ref (zk K k) :: rest) (hw : (rest.map fun v => v.category).sum ≤ 8) (hrm : zc_rm rm rm' nL') (kk : ∀ r σ', post' r σ' → zc_V nL K G (zc_D sh K G σ') lv (pc + 3) (r.toList ++ rest)) : zc_V nL K G (zc_D sh K G σ) lv pc st := by
  subst hst
  intro H locs ls hI hl
  obtain ⟨⟨hcode, hini, hcl, hlink⟩, hin, hsel⟩ := hL
  obtain ⟨hB, hR, hlk, hRm, hK, hi, hZ, hQ, h0, h1⟩ := hG
  have he : (zc_W sh K.2.2.1 K.2.2.2.1 σ)[k]? = some (K.2.2.2.1 k, .inr (ci, fl.mapIdx (fun j f => match f with | some r => Value.ref (K.2.2.2.1 r) | none => .int (σ.1 k j)))) := zc_at hk
  obtain ⟨q, hq, hq2⟩ := Option.map_eq_some_iff.mp hc
  have hrecv : ∃ cellB : Cell, H[K.2.2.2.1 k]? = some cellB ∧ cellB.vm.isStatics = false ∧ (zg_s G).vm.findClass y.cls = some cellB.cls := by
    rw [← hq2]; exact va_recv hK hI.1 hq he
  have hp : PreV (zg_s G) H y.cls (K.2.2.2.1 k) (zc_Pc sh K σ (.ref (zk K k) :: As)) As := ⟨zc_blind, hrecv, fun U hU hW => ⟨rfl, by rw [hU]; exact hI.1, va_K.moved hW.alike hK, hZ.go hI.2 hU hW⟩⟩
  have hroom : rm'.frames + 1 ≤ (zg_R G).frames ∧ 8 + (nL' + 11) + rm'.locals ≤ (zg_R G).locals := by rw [hRm]; exact ⟨hrm.1, hrm.2.1⟩
  have hcs : zg_k G + 0 ≤ (zg_R G).cells ∧ zg_n G + 0 ≤ (zg_R G).slots := by rw [h0, h1]; exact ⟨Nat.zero_le _, Nat.zero_le _⟩
  have hS : CallFix (zg_p G) (zg_m G) (zg_c G) cc nL (zg_s G) (zg_a G) lw_good own := ⟨hB.1, hB.2.1, hB.2.2.1, hB.2.2.2.1, hB.2.2.2.2⟩
  have hg : GoodIn lw_good (Cond.code y cc' nL' rt' :: lw_good) := zc_gin hcode
  rcases hlink with hw2 | ⟨host, hw2⟩
  · refine zc_call (va_runV (C := y.cls) (n := n) hS hM ⟨callB_of n hB.2.2.2.2 hg rfl hrm.2.2.1 hrm.2.2.2 (hB.2.2.2.2 _ hini) (hB.2.2.2.2 _ hw2) hcl hroom, hB.2.2.2.2 _ hin, hB.2.2.2.2 _ hsel⟩ hp rfl hn hl.1 rfl (lv_room hw) hd hcs) hI.2 (fun _ h => h) (fun _ h => h) (fun r σ' H1 locs1 hpo hP _ hS1 => kk r σ' hpo H1 locs1 ls ⟨hP, hS1⟩ hl)
  · refine zc_call (va_runVN (C := y.cls) (n := n) (host := host) hS hM ⟨va_cnB n hB.2.2.2.2 hg rfl hrm.2.2.1 hrm.2.2.2 (hZ.1 _ hw2) (hB.2.2.2.2 _ hini) hcl hroom, hB.2.2.2.2 _ hin, hB.2.2.2.2 _ hsel⟩ hp rfl hn hl.1 rfl (lv_room hw) hd hcs) hI.2 (fun _ h => h) (fun _ h => h) (fun r σ' H1 locs1 hpo hP _ hS1 => kk r σ' hpo H1 locs1 ls ⟨hP, hS1⟩ hl)
theorem zr_calls (hG : zc_G sh nL own cc rt rm post K G) {idx n nL' : Nat} {y : MethodName} {cc' : ByteArray} {rt' : Option FieldType} {rm' : Room} {post' : Option Value → zc_S → Prop} {As rest : List Value} (hd : decode cc pc = .ok (.invokestatic idx, 3)) (hL : zc_Ls own idx y cc' nL' rt' n)
    (hM : zc_M sh K y cc' nL' rt' rm' σ As post') (hn : As.length = n) (hst : st = As.reverse ++ rest) (hw : (rest.map fun v => v.category).sum ≤ 8) (hrm : zc_rm rm rm' nL') (kk : ∀ r σ', post' r σ' → zc_V nL K G (zc_D sh K G σ') lv (pc + 3) (r.toList ++ rest)) : zc_V nL K G (zc_D sh K G σ) lv pc st := by
  subst hst
  intro H locs ls hI hl
  obtain ⟨⟨hcode, hini, hcl, hlink⟩, hst⟩ := hL
  obtain ⟨hB, hR, hlk, hRm, hK, hi, hZ, hQ, h0, h1⟩ := hG
  have hp : PreS (zg_s G) H (zc_Pc sh K σ As) As := ⟨zc_blind, fun U hU hW => ⟨rfl, by rw [hU]; exact hI.1, va_K.moved hW.alike hK, hZ.go hI.2 hU hW⟩⟩
  have hroom : rm'.frames + 1 ≤ (zg_R G).frames ∧ 8 + (nL' + 11) + rm'.locals ≤ (zg_R G).locals := by rw [hRm]; exact ⟨hrm.1, hrm.2.1⟩
  have hcs : zg_k G + 0 ≤ (zg_R G).cells ∧ zg_n G + 0 ≤ (zg_R G).slots := by rw [h0, h1]; exact ⟨Nat.zero_le _, Nat.zero_le _⟩
  have hS : CallFix (zg_p G) (zg_m G) (zg_c G) cc nL (zg_s G) (zg_a G) lw_good own := ⟨hB.1, hB.2.1, hB.2.2.1, hB.2.2.2.1, hB.2.2.2.2⟩
  have hg : GoodIn lw_good (Cond.code y cc' nL' rt' :: lw_good) := zc_gin hcode
  rcases hlink with hw2 | ⟨host, hw2⟩
  · refine zc_call (va_runS (n := n) hS hM ⟨callB_of n hB.2.2.2.2 hg rfl hrm.2.2.1 hrm.2.2.2 (hB.2.2.2.2 _ hini) (hB.2.2.2.2 _ hw2) hcl hroom, hB.2.2.2.2 _ hst⟩ hp rfl hn hl.1 rfl (lv_room hw) hd hcs) hI.2 (fun _ h => h) (fun _ h => h) (fun r σ' H1 locs1 hpo hP _ hS1 => kk r σ' hpo H1 locs1 ls ⟨hP, hS1⟩ hl)
  · refine zc_call (va_runSN (n := n) (host := host) hS hM ⟨va_cnB n hB.2.2.2.2 hg rfl hrm.2.2.1 hrm.2.2.2 (hZ.1 _ hw2) (hB.2.2.2.2 _ hini) hcl hroom, hB.2.2.2.2 _ hst, trivial⟩ hp rfl hn hl.1 rfl (lv_room hw) hd hcs) hI.2 (fun _ h => h) (fun _ h => h) (fun r σ' H1 locs1 hpo hP _ hS1 => kk r σ' hpo H1 locs1 ls ⟨hP, hS1⟩ hl)
theorem zr_nret {ty : FieldType} {P : Int32 → zc_S → Prop} {z : Int32} (hG : zc_G sh nL own cc (some ty) rm (zc_I P) K G) (hd : decode cc pc = .ok (.ireturn, 1)) (hn : narrow ty (.int z) = .int z) (h : P z σ) : zc_V nL K G (zc_D sh K G σ) lv pc [.int z] := by
  intro H locs ls hI hl
  obtain ⟨hB, hR, hlk, hRm, hK, hi, hZ, hQ, h0, h1⟩ := hG
  rw [hQ, h0, h1]
  exact W.zret hB.1 hB.2.1 hR hn (fun t ht hW => ⟨⟨_, σ, rfl, ⟨z, rfl, h⟩, by rw [ht]; exact hI.1⟩, hI.2.F ht⟩) hI.2.2.2 hd hlk
theorem zr_iret {P : Int32 → zc_S → Prop} {z : Int32} (hG : zc_G sh nL own cc (some .int) rm (zc_I P) K G) (hd : decode cc pc = .ok (.ireturn, 1)) (h : P z σ) : zc_V nL K G (zc_D sh K G σ) lv pc [.int z] := zr_nret hG hd rfl h
theorem zr_zret {P : Int32 → zc_S → Prop} {z : Int32} (hG : zc_G sh nL own cc (some .boolean) rm (zc_I P) K G) (hd : decode cc pc = .ok (.ireturn, 1)) (h0 : 0 ≤ z.toInt) (h1 : z.toInt ≤ 1) (h : P z σ) : zc_V nL K G (zc_D sh K G σ) lv pc [.int z] := by
  refine zr_nret hG hd ?_ h
  have h : z = 0 ∨ z = 1 := by
    rcases (show z.toInt = 0 ∨ z.toInt = 1 by omega) with h | h
    · exact Or.inl ((zn_eq _ _).mpr h)
    · exact Or.inr ((zn_eq _ _).mpr h)
  rcases h with rfl | rfl <;> rfl
theorem zr_lret {P : Int64 → zc_S → Prop} {z : Int64} (hG : zc_G sh nL own cc (some .long) rm (zc_J P) K G) (hd : decode cc pc = .ok (.lreturn, 1)) (h : P z σ) : zc_V nL K G (zc_D sh K G σ) lv pc [.long z] := by
  intro H locs ls hI hl
  obtain ⟨hB, hR, hlk, hRm, hK, hi, hZ, hQ, h0, h1⟩ := hG
  rw [hQ, h0, h1]
  exact W.lret hB.1 hB.2.1 hR (fun t ht hW => ⟨⟨_, σ, rfl, ⟨z, rfl, h⟩, by rw [ht]; exact hI.1⟩, hI.2.F ht⟩) hI.2.2.2 hd hlk
theorem zr_vret {P : zc_S → Prop} (hG : zc_G sh nL own cc none rm (zc_N P) K G) (hd : decode cc pc = .ok (.return_, 1)) (h : P σ) : zc_V nL K G (zc_D sh K G σ) lv pc [] := by
  intro H locs ls hI hl
  obtain ⟨hB, hR, hlk, hRm, hK, hi, hZ, hQ, h0, h1⟩ := hG
  rw [hQ, h0, h1]
  exact W.vret hB.1 hB.2.1 hR (fun t ht hW => ⟨⟨_, σ, rfl, ⟨rfl, h⟩, by rw [ht]; exact hI.1⟩, hI.2.F ht⟩) hI.2.2.2 hd hlk
end ZH
/-- intervals: every int of the world lies between its bounds, and is the lower one or at least a third number -/
abbrev zc_tb : Type := List (List (Int × Int × Int))
def zc_bd (tb : zc_tb) (k j : Nat) : Int × Int × Int := match tb.getD k [] with
  | [] => (-2147483648, 2147483647, -2147483648)
  | [b] => b
  | bs => bs.getD j (-2147483648, 2147483647, -2147483648)
def zc_O (tb : zc_tb) (σ : zc_S) : Prop := ∀ k j, (zc_bd tb k j).1 ≤ (σ.1 k j).toInt ∧ (σ.1 k j).toInt ≤ (zc_bd tb k j).2.1 ∧ ((σ.1 k j).toInt = (zc_bd tb k j).1 ∨ (zc_bd tb k j).2.2 ≤ (σ.1 k j).toInt)
theorem zc_O.u {tb : zc_tb} {σ : zc_S} (h : zc_O tb σ) (k j : Nat) {v : Int32} (h1 : (zc_bd tb k j).1 ≤ v.toInt) (h2 : v.toInt ≤ (zc_bd tb k j).2.1) (h3 : v.toInt = (zc_bd tb k j).1 ∨ (zc_bd tb k j).2.2 ≤ v.toInt) : zc_O tb (zc_u σ k j v) := by
  intro k' j'
  by_cases e : k' = k ∧ j' = j
  · obtain ⟨rfl, rfl⟩ := e
    have e2 : (zc_u σ k' j' v).1 k' j' = v := by simp [zc_u]
    rw [e2]
    exact ⟨h1, h2, h3⟩
  · have e2 : (zc_u σ k j v).1 k' j' = σ.1 k' j' := by simp only [zc_u, if_neg e]
    rw [e2]
    exact h k' j'
theorem zc_O.ul {tb : zc_tb} {σ : zc_S} (h : zc_O tb σ) (k j : Nat) (v : Int64) : zc_O tb (zc_ul σ k j v) := h
/-- which places may have changed -/
abbrev zc_ms : Type := List (Nat × Option Nat)
def zc_im (M : zc_ms) (k j : Nat) : Bool := M.any (fun q => q.1 == k && (match q.2 with | none => true | some i => i == j))
def zc_Ag (M : zc_ms) (σ σ' : zc_S) : Prop := ∀ k j, zc_im M k j = false → σ'.1 k j = σ.1 k j ∧ σ'.2 k j = σ.2 k j
theorem zc_Ag.rf {M : zc_ms} {σ : zc_S} : zc_Ag M σ σ := fun _ _ _ => ⟨rfl, rfl⟩
theorem zc_Ag.u {M : zc_ms} {σ σ' : zc_S} (h : zc_Ag M σ σ') (k j : Nat) (v : Int32) (hm : zc_im M k j = true) : zc_Ag M σ (zc_u σ' k j v) := by
  intro k' j' h'
  have e : ¬ (k' = k ∧ j' = j) := by
    rintro ⟨rfl, rfl⟩
    rw [hm] at h'; cases h'
  simpa [zc_u, e] using h k' j' h'
theorem zc_Ag.ul {M : zc_ms} {σ σ' : zc_S} (h : zc_Ag M σ σ') (k j : Nat) (v : Int64) (hm : zc_im M k j = true) : zc_Ag M σ (zc_ul σ' k j v) := by
  intro k' j' h'
  have e : ¬ (k' = k ∧ j' = j) := by
    rintro ⟨rfl, rfl⟩
    rw [hm] at h'; cases h'
  simpa [zc_ul, e] using h k' j' h'
def zc_sb (M' M : zc_ms) : Bool := M'.all (fun q => M.any (fun r => r == q || r == (q.1, none)))
theorem zc_sb.im {M' M : zc_ms} (h : zc_sb M' M = true) {k j : Nat} (hm : zc_im M k j = false) : zc_im M' k j = false := by
  cases h2 : zc_im M' k j with
  | false => rfl
  | true =>
    exfalso
    simp only [zc_im, List.any_eq_true] at h2
    obtain ⟨q, hq, hq2⟩ := h2
    have h3 := List.all_eq_true.mp h q hq
    simp only [List.any_eq_true] at h3
    obtain ⟨r, hr, hr2⟩ := h3
    have h4 : zc_im M k j = true := by
      simp only [zc_im, List.any_eq_true]
      refine ⟨r, hr, ?_⟩
      simp only [Bool.or_eq_true, beq_iff_eq] at hr2
      rcases hr2 with rfl | rfl
      · exact hq2
      · simp only [Bool.and_eq_true, beq_iff_eq] at hq2 ⊢
        exact ⟨hq2.1, trivial⟩
    rw [hm] at h4; cases h4
theorem zc_Ag.tr {M M' : zc_ms} {σ σ' σ'' : zc_S} (h : zc_Ag M σ σ') (h' : zc_Ag M' σ' σ'') (hs : zc_sb M' M = true) : zc_Ag M σ σ'' := by
  intro k j hm
  have h1 := h k j hm
  have h2 := h' k j (zc_sb.im hs hm)
  exact ⟨h2.1.trans h1.1, h2.2.trans h1.2⟩
def zrm (f n : Nat) : Room := { frames := f, cells := 0, slots := 0, locals := n }
/-- a boolean answer and what it says -/
def zc_if (r : Int32) (P : Prop) : Prop := (r.toInt = 1 ∧ P) ∨ (r.toInt = 0 ∧ ¬ P)
theorem zc_if.t {r : Int32} {P : Prop} (h : zc_if r P) (c : ¬ r.toInt = 0) : P := by
  rcases h with h | h
  · exact h.2
  · exact absurd h.1 c
theorem zc_if.f {r : Int32} {P : Prop} (h : zc_if r P) (c : r.toInt = 0) : ¬ P := by
  rcases h with h | h
  · rw [h.1] at c; exact absurd c (by decide)
  · exact h.2
theorem zc_if.b {r : Int32} {P : Prop} (h : zc_if r P) : 0 ≤ r.toInt ∧ r.toInt ≤ 1 := by
  rcases h with h | h <;> omega
theorem zc_if.mt {r : Int32} {P : Prop} (c : r.toInt = 1) (h : P) : zc_if r P := Or.inl ⟨c, h⟩
theorem zc_if.mf {r : Int32} {P : Prop} (c : r.toInt = 0) (h : ¬ P) : zc_if r P := Or.inr ⟨c, h⟩
theorem zc_if.to {r : Int32} {P Q : Prop} (h : zc_if r P) (e : P ↔ Q) : zc_if r Q := by
  rcases h with h | h
  · exact Or.inl ⟨h.1, e.mp h.2⟩
  · exact Or.inr ⟨h.1, fun q => h.2 (e.mpr q)⟩
theorem zn_and {z x y : Int32} {m : Int} {k : Nat} (ez : z = x &&& y) (ey : y.toInt = m) (hm : m = 2 ^ k - 1) (hk : k ≤ 30) : 0 ≤ z.toInt ∧ z.toInt ≤ m := by
  have hp : (0 : Int) < 2 ^ k := Int.pow_pos (by decide)
  have h0 : (0 : Int32) ≤ y := (zn_le _ _).mpr (by rw [Int32.toInt_zero]; omega)
  have h1 : y.toBitVec.toNat = 2 ^ k - 1 := by
    rw [Int32.toNat_toBitVec_of_le h0, ← Int32.toNat_toInt, ey, hm]
    have : ((2 : Int) ^ k) = ((2 ^ k : Nat) : Int) := by rw [Int.natCast_pow]; rfl
    omega
  obtain ⟨j, hj, e⟩ := pk_andE x (m := y) k h1
  have hk2 : 2 ^ k ≤ 2 ^ 30 := Nat.pow_le_pow_right (by decide) hk
  rw [ez, e, nI_toInt (by omega)]
  have : ((2 : Int) ^ k) = ((2 ^ k : Nat) : Int) := by rw [Int.natCast_pow]; rfl
  omega
theorem zc_us (σ : zc_S) (k j : Nat) (v : Int32) : (zc_u σ k j v).1 k j = v := by simp [zc_u]
theorem zn_addnn {z x y : Int32} (ez : z = x + y) (h0 : 0 ≤ y.toInt) (h1 : y.toInt ≤ 64) (hz : 0 ≤ z.toInt) : z.toInt = x.toInt + y.toInt := by
  have a := zn_lo x
  have b := zn_hi x
  by_cases h : x.toInt + y.toInt ≤ 2147483647
  · rw [ez]; exact zn_add (by omega) h
  · exfalso
    rw [ez, Int32.toInt_add] at hz
    have e : (x.toInt + y.toInt).bmod (2 ^ 32) = x.toInt + y.toInt - 4294967296 := by
      have e2 : x.toInt + y.toInt = (x.toInt + y.toInt - 4294967296) + 4294967296 := by omega
      rw [e2, show ((4294967296 : Int)) = ((2 ^ 32 : Nat) : Int) from rfl, Int.add_bmod_right, show (((2 ^ 32 : Nat) : Int)) = 4294967296 from rfl]
      rw [zn_bm (by omega) (by omega)]
      omega
    omega
theorem zn_shk : ∀ n, n < 32 → ((nI n &&& 31).toBitVec.smod 32).toNat = n := by decide +kernel
theorem zn_shl1 {z x y : Int32} {n : Nat} (ez : z = x <<< (y &&& 31)) (ex : x.toInt = 1) (h1 : 0 ≤ y.toInt) (h2 : y.toInt ≤ n) (hn : n ≤ 30) : 1 ≤ z.toInt ∧ z.toInt ≤ 2 ^ n := by
  have hx : x = nI 1 := (zn_eq _ _).mpr (by rw [ex]; rfl)
  have hy : y = nI y.toInt.toNat := (zn_eq _ _).mpr (by rw [nI_toInt (by omega)]; omega)
  generalize hj : y.toInt.toNat = j at hy
  have hj2 : j ≤ n := by omega
  have hp : 2 ^ j ≤ 2 ^ n := Nat.pow_le_pow_right (by decide) hj2
  have hp2 : 2 ^ n ≤ 2 ^ 30 := Nat.pow_le_pow_right (by decide) hn
  have hp3 : 0 < 2 ^ j := Nat.pow_pos (by decide)
  rw [ez, hx, hy, pk_shlN (nI j &&& 31) j (zn_shk j (by omega)) (by omega), nI_toInt (by omega)]
  have : ((2 : Int) ^ n) = ((2 ^ n : Nat) : Int) := by rw [Int.natCast_pow]; rfl
  omega
section ZI
variable {sh : List zc_H} {nL : Nat} {own : String} {cc : ByteArray} {rt : Option FieldType} {rm : Room} {post : Option Value → zc_S → Prop} {K : zc_K} {G : zc_X} {σ : zc_S} {I : Heap → List Loc → Prop} {lv lv' : List (Nat × Value)} {pc tgt : Nat} {st : List Value}
theorem zr_geti' (hG : zc_G sh nL own cc rt rm post K G) {idx ci : Nat} {fl : List (Option Nat)} (k j : Nat) (x : Int32) (hd : decode cc pc = .ok (.getfield idx, 3)) (hk : sh[k]? = some (.inl (ci, fl))) (hF : zc_F own idx ci j) (hj : fl[j]? = some none) (hx : σ.1 k j = x) (kk : zc_V nL K G (zc_D sh K G σ) lv (pc + 3) (.int x :: st)) : zc_V nL K G (zc_D sh K G σ) lv pc (.ref (zk K k) :: st) := zr_geti hG k j hd hk hF hj (fun z e => by rw [e, hx]; exact kk)
theorem zr_imulc (hB : zc_B nL own cc G) {x y : Int32} {c : Int} (hd : decode cc pc = .ok (.imul, 1)) (hc : y.toInt = c) (h1 : -2147483648 ≤ x.toInt * c) (h2 : x.toInt * c ≤ 2147483647) (k : ∀ z : Int32, z.toInt = x.toInt * c → zc_V nL K G I lv (pc + 1) (.int z :: st)) : zc_V nL K G I lv pc (.int y :: .int x :: st) := by
  subst hc; exact zr_imul hB hd h1 h2 k
theorem zr_imuld (hB : zc_B nL own cc G) {x y : Int32} {c : Int} (hd : decode cc pc = .ok (.imul, 1)) (hc : x.toInt = c) (h1 : -2147483648 ≤ c * y.toInt) (h2 : c * y.toInt ≤ 2147483647) (k : ∀ z : Int32, z.toInt = c * y.toInt → zc_V nL K G I lv (pc + 1) (.int z :: st)) : zc_V nL K G I lv pc (.int y :: .int x :: st) := by
  subst hc; exact zr_imul hB hd h1 h2 k
theorem zr_imulb (hB : zc_B nL own cc G) {x y : Int32} {A B : Int} (hd : decode cc pc = .ok (.imul, 1)) (h1 : 0 ≤ x.toInt) (h2 : x.toInt ≤ A) (h3 : 0 ≤ y.toInt) (h4 : y.toInt ≤ B) (h5 : A * B ≤ 2147483647) (k : ∀ z : Int32, z.toInt = x.toInt * y.toInt → 0 ≤ z.toInt → z.toInt ≤ A * B → z.toInt ≤ x.toInt * B → z.toInt ≤ A * y.toInt → zc_V nL K G I lv (pc + 1) (.int z :: st)) : zc_V nL K G I lv pc (.int y :: .int x :: st) := by
  have a1 : 0 ≤ x.toInt * y.toInt := Int.mul_nonneg h1 h3
  have a2 : x.toInt * y.toInt ≤ A * B := Int.mul_le_mul h2 h4 h3 (by omega)
  exact zr_imul hB hd (by omega) (by omega) (fun z e => k z e (by rw [e]; exact a1) (by rw [e]; exact a2) (by rw [e]; exact Int.mul_le_mul_of_nonneg_left h4 h1) (by rw [e]; exact Int.mul_le_mul_of_nonneg_right h2 h3))
theorem zr_idivc (hB : zc_B nL own cc G) {x y : Int32} {c : Int} (hd : decode cc pc = .ok (.idiv, 1)) (hc : y.toInt = c) (hx : 0 ≤ x.toInt) (h0 : 0 < c) (k : ∀ z : Int32, z.toInt = x.toInt / c → zc_V nL K G I lv (pc + 1) (.int z :: st)) : zc_V nL K G I lv pc (.int y :: .int x :: st) := by
  subst hc; exact zr_idiv hB hd hx h0 (fun z e _ _ _ => k z e)
theorem zr_iremc (hB : zc_B nL own cc G) {x y : Int32} {c : Int} (hd : decode cc pc = .ok (.irem, 1)) (hc : y.toInt = c) (hx : 0 ≤ x.toInt) (h0 : 0 < c) (k : ∀ z : Int32, z.toInt = x.toInt % c → zc_V nL K G I lv (pc + 1) (.int z :: st)) : zc_V nL K G I lv pc (.int y :: .int x :: st) := by
  subst hc; exact zr_irem hB hd hx h0 (fun z e _ _ => k z e)
theorem zl_div {x y : Int64} (hx : 0 ≤ x.toInt) (hy : 0 < y.toInt) : (x / y).toInt = x.toInt / y.toInt := by
  have h2 := Int64.toInt_lt x
  have h3 : 0 ≤ x.toInt / y.toInt := Int.ediv_nonneg hx (by omega)
  have h4 : x.toInt / y.toInt ≤ x.toInt := Int.ediv_le_self _ hx
  rw [Int64.toInt_div, Int.tdiv_eq_ediv_of_nonneg hx, zl_bm (by omega) (by omega)]
theorem zl_rem {x y : Int64} (hx : 0 ≤ x.toInt) (hy : 0 < y.toInt) : (x - x / y * y).toInt = x.toInt % y.toInt := by
  have h1 := zl_div hx hy
  have h2 := Int64.toInt_lt x
  have h3 : 0 ≤ x.toInt / y.toInt := Int.ediv_nonneg hx (by omega)
  have h5 : x.toInt / y.toInt * y.toInt ≤ x.toInt := Int.ediv_mul_le _ (by omega)
  have h6 : 0 ≤ x.toInt / y.toInt * y.toInt := Int.mul_nonneg h3 (by omega)
  have h4 : (x / y * y).toInt = x.toInt / y.toInt * y.toInt := by rw [zl_mul (by rw [h1]; omega) (by rw [h1]; omega), h1]
  rw [zl_sub (by rw [h4]; omega) (by rw [h4]; omega), h4]
  have := Int.emod_add_mul_ediv x.toInt y.toInt
  rw [Int.mul_comm] at this
  omega
theorem zr_ldivc (hB : zc_B nL own cc G) {x y : Int64} {c : Int} (hd : decode cc pc = .ok (.ldiv, 1)) (hc : y.toInt = c) (hx : 0 ≤ x.toInt) (h0 : 0 < c) (k : ∀ z : Int64, z.toInt = x.toInt / c → zc_V nL K G I lv (pc + 1) (.long z :: st)) : zc_V nL K G I lv pc (.long y :: .long x :: st) := by
  subst hc; exact zr_ldivw hB hd (by omega) (fun z e => k z (by rw [e]; exact zl_div hx h0))
theorem zr_lremc (hB : zc_B nL own cc G) {x y : Int64} {c : Int} (hd : decode cc pc = .ok (.lrem, 1)) (hc : y.toInt = c) (hx : 0 ≤ x.toInt) (h0 : 0 < c) (k : ∀ z : Int64, z.toInt = x.toInt % c → zc_V nL K G I lv (pc + 1) (.long z :: st)) : zc_V nL K G I lv pc (.long y :: .long x :: st) := by
  subst hc; exact zr_lremw hB hd (by omega) (fun z e => k z (by rw [e]; exact zl_rem hx h0))
theorem zr_callvi (hG : zc_G sh nL own cc rt rm post K G) {idx n ci nL' : Nat} {y : MethodName} {cc' : ByteArray} {rt' : Option FieldType} {rm' : Room} {P : Int32 → zc_S → Prop} {fl : List (Option Nat)} {As rest : List Value} (k : Nat) (hd : decode cc pc = .ok (.invokevirtual idx, 3)) (hL : zc_Lv own idx y cc' nL' rt' n) (hk : sh[k]? = some (.inl (ci, fl))) (hc : (vwCl[ci]?).map (fun q => q.1) = some y.cls)
    (hM : zc_M sh K y cc' nL' rt' rm' σ (.ref (zk K k) :: As) (zc_I P)) (hn : As.length = n) (hst : st = As.reverse ++ .ref (zk K k) :: rest) (hw : (rest.map fun v => v.category).sum ≤ 8) (hrm : zc_rm rm rm' nL') (kk : ∀ r σ', P r σ' → zc_V nL K G (zc_D sh K G σ') lv (pc + 3) (.int r :: rest)) : zc_V nL K G (zc_D sh K G σ) lv pc st :=
  zr_callv hG k hd hL hk hc hM hn hst hw hrm (fun r σ' h => by obtain ⟨z, rfl, h⟩ := h; exact kk z σ' h)
theorem zr_callvl (hG : zc_G sh nL own cc rt rm post K G) {idx n ci nL' : Nat} {y : MethodName} {cc' : ByteArray} {rt' : Option FieldType} {rm' : Room} {P : Int64 → zc_S → Prop} {fl : List (Option Nat)} {As rest : List Value} (k : Nat) (hd : decode cc pc = .ok (.invokevirtual idx, 3)) (hL : zc_Lv own idx y cc' nL' rt' n) (hk : sh[k]? = some (.inl (ci, fl))) (hc : (vwCl[ci]?).map (fun q => q.1) = some y.cls)
    (hM : zc_M sh K y cc' nL' rt' rm' σ (.ref (zk K k) :: As) (zc_J P)) (hn : As.length = n) (hst : st = As.reverse ++ .ref (zk K k) :: rest) (hw : (rest.map fun v => v.category).sum ≤ 8) (hrm : zc_rm rm rm' nL') (kk : ∀ r σ', P r σ' → zc_V nL K G (zc_D sh K G σ') lv (pc + 3) (.long r :: rest)) : zc_V nL K G (zc_D sh K G σ) lv pc st :=
  zr_callv hG k hd hL hk hc hM hn hst hw hrm (fun r σ' h => by obtain ⟨z, rfl, h⟩ := h; exact kk z σ' h)
theorem zr_callvn (hG : zc_G sh nL own cc rt rm post K G) {idx n ci nL' : Nat} {y : MethodName} {cc' : ByteArray} {rt' : Option FieldType} {rm' : Room} {P : zc_S → Prop} {fl : List (Option Nat)} {As rest : List Value} (k : Nat) (hd : decode cc pc = .ok (.invokevirtual idx, 3)) (hL : zc_Lv own idx y cc' nL' rt' n) (hk : sh[k]? = some (.inl (ci, fl))) (hc : (vwCl[ci]?).map (fun q => q.1) = some y.cls)
    (hM : zc_M sh K y cc' nL' rt' rm' σ (.ref (zk K k) :: As) (zc_N P)) (hn : As.length = n) (hst : st = As.reverse ++ .ref (zk K k) :: rest) (hw : (rest.map fun v => v.category).sum ≤ 8) (hrm : zc_rm rm rm' nL') (kk : ∀ σ', P σ' → zc_V nL K G (zc_D sh K G σ') lv (pc + 3) rest) : zc_V nL K G (zc_D sh K G σ) lv pc st :=
  zr_callv hG k hd hL hk hc hM hn hst hw hrm (fun r σ' h => by obtain ⟨rfl, h⟩ := h; exact kk σ' h)
theorem zr_callsi (hG : zc_G sh nL own cc rt rm post K G) {idx n nL' : Nat} {y : MethodName} {cc' : ByteArray} {rt' : Option FieldType} {rm' : Room} {P : Int32 → zc_S → Prop} {As rest : List Value} (hd : decode cc pc = .ok (.invokestatic idx, 3)) (hL : zc_Ls own idx y cc' nL' rt' n)
    (hM : zc_M sh K y cc' nL' rt' rm' σ As (zc_I P)) (hn : As.length = n) (hst : st = As.reverse ++ rest) (hw : (rest.map fun v => v.category).sum ≤ 8) (hrm : zc_rm rm rm' nL') (kk : ∀ r σ', P r σ' → zc_V nL K G (zc_D sh K G σ') lv (pc + 3) (.int r :: rest)) : zc_V nL K G (zc_D sh K G σ) lv pc st :=
  zr_calls hG hd hL hM hn hst hw hrm (fun r σ' h => by obtain ⟨z, rfl, h⟩ := h; exact kk z σ' h)
theorem zr_callsl (hG : zc_G sh nL own cc rt rm post K G) {idx n nL' : Nat} {y : MethodName} {cc' : ByteArray} {rt' : Option FieldType} {rm' : Room} {P : Int64 → zc_S → Prop} {As rest : List Value} (hd : decode cc pc = .ok (.invokestatic idx, 3)) (hL : zc_Ls own idx y cc' nL' rt' n)
    (hM : zc_M sh K y cc' nL' rt' rm' σ As (zc_J P)) (hn : As.length = n) (hst : st = As.reverse ++ rest) (hw : (rest.map fun v => v.category).sum ≤ 8) (hrm : zc_rm rm rm' nL') (kk : ∀ r σ', P r σ' → zc_V nL K G (zc_D sh K G σ') lv (pc + 3) (.long r :: rest)) : zc_V nL K G (zc_D sh K G σ) lv pc st :=
  zr_calls hG hd hL hM hn hst hw hrm (fun r σ' h => by obtain ⟨z, rfl, h⟩ := h; exact kk z σ' h)
theorem zr_callsn (hG : zc_G sh nL own cc rt rm post K G) {idx n nL' : Nat} {y : MethodName} {cc' : ByteArray} {rt' : Option FieldType} {rm' : Room} {P : zc_S → Prop} {As rest : List Value} (hd : decode cc pc = .ok (.invokestatic idx, 3)) (hL : zc_Ls own idx y cc' nL' rt' n)
    (hM : zc_M sh K y cc' nL' rt' rm' σ As (zc_N P)) (hn : As.length = n) (hst : st = As.reverse ++ rest) (hw : (rest.map fun v => v.category).sum ≤ 8) (hrm : zc_rm rm rm' nL') (kk : ∀ σ', P σ' → zc_V nL K G (zc_D sh K G σ') lv (pc + 3) rest) : zc_V nL K G (zc_D sh K G σ) lv pc st :=
  zr_calls hG hd hL hM hn hst hw hrm (fun r σ' h => by obtain ⟨rfl, h⟩ := h; exact kk σ' h)
end ZI
section ZS
variable {sh : List zc_H} {nL : Nat} {own : String} {cc : ByteArray} {rt : Option FieldType} {rm : Room} {post : Option Value → zc_S → Prop} {K : zc_K} {G : zc_X} {σ : zc_S} {lv lv' : List (Nat × Value)} {pc tgt : Nat} {st : List Value}
theorem zr_ldcS (hG : zc_G sh nL RX6 cc rt rm post K G) {idx : Nat} (i : Nat) (hd : decode cc pc = .ok (.ldc idx, 2)) (hi : i < 5) (hx : zc_txi.getD i 0 = idx) (kk : zc_V nL K G (zc_D sh K G σ) lv (pc + 2) (.ref (zz K (2 + i)) :: st)) : zc_V nL K G (zc_D sh K G σ) lv pc st := by
  intro H locs ls hI hl
  subst hx
  exact va_ldcS hG.1.1 hG.1.2.1 hG.1.2.2.2.1 (hG.2.2.2.2.2.2.1.2.2 i hi) hd (kk H locs ls hI hl)
theorem zr_getsL (hG : zc_G sh nL own cc rt rm post K G) {idx : Nat} (hd : decode cc pc = .ok (.getstatic idx, 3)) (hw : Cond.fieldLink own idx RX6 "LEAST" "[I" ∈ lw_good) (kk : zc_V nL K G (zc_D sh K G σ) lv (pc + 3) (.ref (zz K 0) :: st)) : zc_V nL K G (zc_D sh K G σ) lv pc st := fun H locs ls hI hl =>
  va_gets hG.1.1 hG.1.2.1 hG.2.2.2.2.2.2.1.2.1.1 hI.2 hG.1.2.2.2.1 (hG.1.2.2.2.2 _ hw) (fun _ h => h) hd (kk H locs ls hI hl)
theorem zr_getsM (hG : zc_G sh nL own cc rt rm post K G) {idx : Nat} (hd : decode cc pc = .ok (.getstatic idx, 3)) (hw : Cond.fieldLink own idx RX6 "MOST" "[I" ∈ lw_good) (kk : zc_V nL K G (zc_D sh K G σ) lv (pc + 3) (.ref (zz K 1) :: st)) : zc_V nL K G (zc_D sh K G σ) lv pc st := fun H locs ls hI hl =>
  va_gets hG.1.1 hG.1.2.1 hG.2.2.2.2.2.2.1.2.1.2.2.1 hI.2 hG.1.2.2.2.1 (hG.1.2.2.2.2 _ hw) (fun _ h => h) hd (kk H locs ls hI hl)
theorem zr_getsC (hG : zc_G sh nL own cc rt rm post K G) {idx : Nat} (hd : decode cc pc = .ok (.getstatic idx, 3)) (hw : Cond.fieldLink own idx RJ0 "COMPACT_STRINGS" "Z" ∈ lw_good) (kk : ∀ z : Int32, z.toInt = 1 → zc_V nL K G (zc_D sh K G σ) lv (pc + 3) (.int z :: st)) : zc_V nL K G (zc_D sh K G σ) lv pc st := fun H locs ls hI hl =>
  va_gets hG.1.1 hG.1.2.1 hG.2.2.2.2.2.2.1.2.1.2.2.2.2.1 hI.2 hG.1.2.2.2.1 (hG.1.2.2.2.2 _ hw) (fun _ h => h) hd (kk 1 rfl H locs ls hI hl)
theorem zr_getsF (hG : zc_G sh nL own cc rt rm post K G) {idx : Nat} (hd : decode cc pc = .ok (.getstatic idx, 3)) (hw : Cond.fieldLink own idx RJ3 "SIOOBE_FORMATTER" "Ljava/util/function/BiFunction;" ∈ lw_good) (k1 : zc_V nL K G (zc_D sh K G σ) lv (pc + 3) (.null :: st)) (k2 : ∀ t : Nat, zc_V nL K G (zc_D sh K G σ) lv (pc + 3) (.ref t :: st)) : zc_V nL K G (zc_D sh K G σ) lv pc st := by
  intro H locs ls hI hl
  rcases hG.2.2.2.2.2.2.1.2.1.2.2.2.2.2.1 with h | ⟨t, h⟩
  · exact va_gets hG.1.1 hG.1.2.1 h hI.2 hG.1.2.2.2.1 (hG.1.2.2.2.2 _ hw) (fun _ h => h) hd (k1 H locs ls hI hl)
  · exact va_gets hG.1.1 hG.1.2.1 h hI.2 hG.1.2.2.2.1 (hG.1.2.2.2.2 _ hw) (fun _ h => h) hd (k2 t H locs ls hI hl)
theorem zr_taldL (hG : zc_G sh nL own cc rt rm post K G) {i : Int32} (hd : decode cc pc = .ok (.iaload, 1)) (h1 : 0 ≤ i.toInt) (h2 : i.toInt < (5 : Nat)) (kk : ∀ z : Int32, z = ([1, 1, 0, 1, 1] : List Int32).getD i.toInt.toNat 0 → zc_V nL K G (zc_D sh K G σ) lv (pc + 1) (.int z :: st)) : zc_V nL K G (zc_D sh K G σ) lv pc (.int i :: .ref (zz K 0) :: st) := fun H locs ls hI hl =>
  va_ti hG.1.1 hG.1.2.1 hG.2.2.2.2.2.2.1.2.1.2.1 hI.2 (zn_in h1 h2) rfl hd (kk _ rfl H locs ls hI hl)
theorem zr_taldM (hG : zc_G sh nL own cc rt rm post K G) {i : Int32} (hd : decode cc pc = .ok (.iaload, 1)) (h1 : 0 ≤ i.toInt) (h2 : i.toInt < (5 : Nat)) (kk : ∀ z : Int32, z = ([14, 20, 10, 8, 30] : List Int32).getD i.toInt.toNat 0 → zc_V nL K G (zc_D sh K G σ) lv (pc + 1) (.int z :: st)) : zc_V nL K G (zc_D sh K G σ) lv pc (.int i :: .ref (zz K 1) :: st) := fun H locs ls hI hl =>
  va_ti hG.1.1 hG.1.2.1 hG.2.2.2.2.2.2.1.2.1.2.2.2.1 hI.2 (zn_in h1 h2) rfl hd (kk _ rfl H locs ls hI hl)
theorem zr_sval (hG : zc_G sh nL own cc rt rm post K G) {idx : Nat} (i : Nat) (hi : i < 5) (hd : decode cc pc = .ok (.getfield idx, 3)) (hw : Cond.fieldLink own idx "java/lang/String" "value" "[B" ∈ lw_good) (kk : zc_V nL K G (zc_D sh K G σ) lv (pc + 3) (.ref (zz K (7 + i)) :: st)) : zc_V nL K G (zc_D sh K G σ) lv pc (.ref (zz K (2 + i)) :: st) := fun H locs ls hI hl =>
  vk_getf hG.1.1 hG.1.2.1 (hG.2.2.2.2.2.2.1.2.1.2.2.2.2.2.2.1 i hi).2.2.1 hI.2 hG.1.2.2.2.1 (hG.1.2.2.2.2 _ hw) (fun _ h => h) hd (kk H locs ls hI hl)
theorem zr_scod (hG : zc_G sh nL own cc rt rm post K G) {idx : Nat} (i : Nat) (hi : i < 5) (hd : decode cc pc = .ok (.getfield idx, 3)) (hw : Cond.fieldLink own idx "java/lang/String" "coder" "B" ∈ lw_good) (kk : ∀ z : Int32, z.toInt = 0 → zc_V nL K G (zc_D sh K G σ) lv (pc + 3) (.int z :: st)) : zc_V nL K G (zc_D sh K G σ) lv pc (.ref (zz K (2 + i)) :: st) := fun H locs ls hI hl =>
  vk_getf hG.1.1 hG.1.2.1 (hG.2.2.2.2.2.2.1.2.1.2.2.2.2.2.2.1 i hi).2.1 hI.2 hG.1.2.2.2.1 (hG.1.2.2.2.2 _ hw) (fun _ h => h) hd (kk 0 rfl H locs ls hI hl)
theorem zr_slen (hG : zc_G sh nL own cc rt rm post K G) {m : Int} (i : Nat) (hi : i < 5) (hd : decode cc pc = .ok (.arraylength, 1)) (hm : (Int32.ofNat (zc_len.getD i 0)).toInt = m) (kk : ∀ z : Int32, z.toInt = m → zc_V nL K G (zc_D sh K G σ) lv (pc + 1) (.int z :: st)) : zc_V nL K G (zc_D sh K G σ) lv pc (.ref (zz K (7 + i)) :: st) := fun H locs ls hI hl =>
  va_tlen hG.1.1 hG.1.2.1 (hG.2.2.2.2.2.2.1.2.1.2.2.2.2.2.2.1 i hi).2.2.2 hI.2 rfl hd (kk _ hm H locs ls hI hl)
theorem zr_sbald (hG : zc_G sh nL own cc rt rm post K G) {j : Int32} (i : Nat) (hi : i < 5) (hd : decode cc pc = .ok (.baload, 1)) (h1 : 0 ≤ j.toInt) (h2 : j.toInt < (zc_len.getD i 0 : Nat)) (kk : ∀ z : Int32, z = (zc_byt.getD i []).getD j.toInt.toNat 0 → zc_V nL K G (zc_D sh K G σ) lv (pc + 1) (.int z :: st)) : zc_V nL K G (zc_D sh K G σ) lv pc (.int j :: .ref (zz K (7 + i)) :: st) := fun H locs ls hI hl =>
  va_tb hG.1.1 hG.1.2.1 (hG.2.2.2.2.2.2.1.2.1.2.2.2.2.2.2.1 i hi).2.2.2 hI.2 (zn_in h1 h2) rfl hd (kk _ rfl H locs ls hI hl)
theorem zr_callzi (hG : zc_G sh nL own cc rt rm post K G) {idx n nL' : Nat} {y : MethodName} {cc' : ByteArray} {rt' : Option FieldType} {rm' : Room} {P : Int32 → zc_S → Prop} {As rest : List Value} (i : Nat) (hd : decode cc pc = .ok (.invokevirtual idx, 3)) (hL : zc_Lv own idx y cc' nL' rt' n) (hi : i < 5) (hc : y.cls = "java/lang/String")
    (hM : zc_M sh K y cc' nL' rt' rm' σ (.ref (zz K (2 + i)) :: As) (zc_I P)) (hn : As.length = n) (hst : st = As.reverse ++ .ref (zz K (2 + i)) :: rest) (hw : (rest.map fun v => v.category).sum ≤ 8) (hrm : zc_rm rm rm' nL') (kk : ∀ r σ', P r σ' → zc_V nL K G (zc_D sh K G σ') lv (pc + 3) (.int r :: rest)) : zc_V nL K G (zc_D sh K G σ) lv pc st := by
  subst hst
  intro H locs ls hI hl
  obtain ⟨⟨hcode, hini, hcl, hlink⟩, hin, hsel⟩ := hL
  obtain ⟨hB, hR, hlk, hRm, hK, hinj, hZ, hQ, h0, h1⟩ := hG
  have hrecv : ∃ cellB : Cell, H[K.2.2.2.2 (2 + i)]? = some cellB ∧ cellB.vm.isStatics = false ∧ (zg_s G).vm.findClass y.cls = some cellB.cls := by
    rw [hc]; exact vk_recv (adK := fun i => K.2.2.2.2 (2 + i)) hZ.2.1.2.2.2.2.2.2 hi hI.2
  have hp : PreV (zg_s G) H y.cls (K.2.2.2.2 (2 + i)) (zc_Pc sh K σ (.ref (zz K (2 + i)) :: As)) As := ⟨zc_blind, hrecv, fun U hU hW => ⟨rfl, by rw [hU]; exact hI.1, va_K.moved hW.alike hK, hZ.go hI.2 hU hW⟩⟩
  have hroom : rm'.frames + 1 ≤ (zg_R G).frames ∧ 8 + (nL' + 11) + rm'.locals ≤ (zg_R G).locals := by rw [hRm]; exact ⟨hrm.1, hrm.2.1⟩
  have hcs : zg_k G + 0 ≤ (zg_R G).cells ∧ zg_n G + 0 ≤ (zg_R G).slots := by rw [h0, h1]; exact ⟨Nat.zero_le _, Nat.zero_le _⟩
  have hS : CallFix (zg_p G) (zg_m G) (zg_c G) cc nL (zg_s G) (zg_a G) lw_good own := ⟨hB.1, hB.2.1, hB.2.2.1, hB.2.2.2.1, hB.2.2.2.2⟩
  have hg : GoodIn lw_good (Cond.code y cc' nL' rt' :: lw_good) := zc_gin hcode
  rcases hlink with hw2 | ⟨host, hw2⟩
  · refine zc_call (va_runV (C := y.cls) (n := n) hS hM ⟨callB_of n hB.2.2.2.2 hg rfl hrm.2.2.1 hrm.2.2.2 (hB.2.2.2.2 _ hini) (hB.2.2.2.2 _ hw2) hcl hroom, hB.2.2.2.2 _ hin, hB.2.2.2.2 _ hsel⟩ hp rfl hn hl.1 rfl (lv_room hw) hd hcs) hI.2 (fun _ h => h) (fun _ h => h) (fun r σ' H1 locs1 hpo hP _ hS1 => by obtain ⟨z, rfl, hpo⟩ := hpo; exact kk z σ' hpo H1 locs1 ls ⟨hP, hS1⟩ hl)
  · refine zc_call (va_runVN (C := y.cls) (n := n) (host := host) hS hM ⟨va_cnB n hB.2.2.2.2 hg rfl hrm.2.2.1 hrm.2.2.2 (hZ.1 _ hw2) (hB.2.2.2.2 _ hini) hcl hroom, hB.2.2.2.2 _ hin, hB.2.2.2.2 _ hsel⟩ hp rfl hn hl.1 rfl (lv_room hw) hd hcs) hI.2 (fun _ h => h) (fun _ h => h) (fun r σ' H1 locs1 hpo hP _ hS1 => by obtain ⟨z, rfl, hpo⟩ := hpo; exact kk z σ' hpo H1 locs1 ls ⟨hP, hS1⟩ hl)
end ZS
/-- a char of a text, once read -/
theorem zn_chr : ∀ i, i < 5 → ∀ j, j < zc_len.getD i 0 → (((zc_byt.getD i []).getD j 0 &&& 255).toUInt32 % 65536).toInt32 = (zc_byt.getD i []).getD j 0 ∧ narrow .char (.int ((zc_byt.getD i []).getD j 0)) = .int ((zc_byt.getD i []).getD j 0) := by decide +kernel
theorem zn_shr0 {z x y : Int32} (ez : z = x >>> (y &&& 31)) (ey : y.toInt = 0) : z.toInt = x.toInt := by
  have hy : y = 0 := (zn_eq _ _).mpr ey
  rw [ez, hy]
  exact congrArg Int32.toInt (sb_shr0 x)
theorem zn_nb0 {z : Int32} (h : z.toInt = 0) : narrow .byte (.int z) = .int z := by
  rw [(zn_eq z 0).mpr h]; rfl
