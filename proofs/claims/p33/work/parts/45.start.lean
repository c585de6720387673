/-! the law's start: the constants, the classes, the two worlds made -/
theorem zs_st {own n d : String} {A : Array Value} {s : State} {t : Nat} (hl : (Cond.laysStatic own n d).before A s = true) (hini : (Cond.initialized own).before A s = true) (ht : (Term.static own n d).eval A s none [] s = some (.ref t)) : va_Z own n d (.ref t) (zl_A s) s s.heap :=
  va_Zof hl hini ht (fun _ h => Nat.not_le.mpr h)
set_option maxRecDepth 20000 in
theorem zs_w1 : Cond.laysStatic RX6 "LEAST" "[I" ∈ lw_tbl ∧ Cond.laysStatic RX6 "MOST" "[I" ∈ lw_tbl ∧ Cond.laysStatic RJ0 "COMPACT_STRINGS" "Z" ∈ lw_tbl ∧ Cond.laysStatic RJ3 "SIOOBE_FORMATTER" "Ljava/util/function/BiFunction;" ∈ lw_tbl := by decide +kernel
set_option maxRecDepth 20000 in
theorem zs_w2 : Cond.initialized RX6 ∈ lw_tbl ∧ Cond.initialized RJ0 ∈ lw_tbl ∧ Cond.initialized RJ3 ∈ lw_tbl := by decide +kernel
set_option maxRecDepth 20000 in
theorem zs_w3 : ∀ i, i < 5 → Cond.stringRef RX6 (zc_txi.getD i 0) (zc_txt.getD i "") ∈ lw_tbl := by decide +kernel
def zs_tm (i : Nat) : Term := .string RX6 (zc_txi.getD i 0)
def zs_fl : List Cond := flatC (Jvm.Cond.and given_1 narrow_1)
theorem zs_l1 : Cond.arrayOf (.static RX6 "LEAST" "[I") .int ∈ zs_fl ∧ Cond.eq (.length (.static RX6 "LEAST" "[I")) (.int (Int32.ofNat 5)) ∈ zs_fl := by decide +kernel
theorem zs_l2 : ∀ j, j < 5 → Cond.eq (.elem (.static RX6 "LEAST" "[I") (.int (Int32.ofNat j))) (.int (([1, 1, 0, 1, 1] : List Int32).getD j 0)) ∈ zs_fl := by decide +kernel
theorem zs_m1 : Cond.arrayOf (.static RX6 "MOST" "[I") .int ∈ zs_fl ∧ Cond.eq (.length (.static RX6 "MOST" "[I")) (.int (Int32.ofNat 5)) ∈ zs_fl := by decide +kernel
theorem zs_m2 : ∀ j, j < 5 → Cond.eq (.elem (.static RX6 "MOST" "[I") (.int (Int32.ofNat j))) (.int (([14, 20, 10, 8, 30] : List Int32).getD j 0)) ∈ zs_fl := by decide +kernel
theorem zs_c1 : Cond.eq (.static RJ0 "COMPACT_STRINGS" "Z") (.int 1) ∈ zs_fl ∧ Cond.isRef (.static RJ3 "SIOOBE_FORMATTER" "Ljava/util/function/BiFunction;") ∈ zs_fl := by decide +kernel
theorem zs_s0 : ∀ i, i < 5 → zc_len.getD i 0 < 2 ^ 31 := by decide +kernel
theorem zs_s1 : ∀ i, i < 5 → Cond.exactly (zs_tm i) "java/lang/String" ∈ zs_fl := by decide +kernel
theorem zs_s2 : ∀ i, i < 5 → Cond.eq (.field (zs_tm i) "java/lang/String" "coder" "B") (.int 0) ∈ zs_fl := by decide +kernel
theorem zs_s3 : ∀ i, i < 5 → Cond.arrayOf (.field (zs_tm i) "java/lang/String" "value" "[B") .byte ∈ zs_fl := by decide +kernel
theorem zs_s4 : ∀ i, i < 5 → Cond.eq (.length (.field (zs_tm i) "java/lang/String" "value" "[B")) (.int (Int32.ofNat (zc_len.getD i 0))) ∈ zs_fl := by decide +kernel
theorem zs_s5 : ∀ i, i < 5 → ∀ j, j < zc_len.getD i 0 → Cond.eq (.elem (.field (zs_tm i) "java/lang/String" "value" "[B") (.int (Int32.ofNat j))) (.int ((zc_byt.getD i []).getD j 0)) ∈ zs_fl := by decide +kernel
theorem zs_s6 : ∀ i, i < 5 → ∀ j, j < 5 → i ≠ j → Cond.not (Cond.eq (zs_tm i) (zs_tm j)) ∈ zs_fl ∨ Cond.not (Cond.eq (zs_tm j) (zs_tm i)) ∈ zs_fl := by decide +kernel
theorem zs_Z {s : State} {A : Array Value} (hts : ∀ w ∈ lw_tbl, w.before A s = true) (hgv : (Jvm.Cond.and given_1 narrow_1).before A s = true) : ∃ z : Nat → Nat, zc_Z (zl_A s) z s := by
  have hs : ∀ c ∈ zs_fl, c.before A s = true := flat_of_before _ hgv
  have hA : ∀ a : Nat, a < s.heap.size → ¬ zl_A s a := fun a h => Nat.not_le.mpr h
  obtain ⟨t0, ht0, hT0⟩ := va_Tof (tm := .static RX6 "LEAST" "[I") (ty := .int) (N := 5) (f := fun j => .int (([1, 1, 0, 1, 1] : List Int32).getD j 0)) (A := zl_A s) (by decide) (hs _ zs_l1.1) (va_eqt (hs _ zs_l1.2)) (fun j hj => va_eqt (hs _ (zs_l2 j hj))) hA
  obtain ⟨t1, ht1, hT1⟩ := va_Tof (tm := .static RX6 "MOST" "[I") (ty := .int) (N := 5) (f := fun j => .int (([14, 20, 10, 8, 30] : List Int32).getD j 0)) (A := zl_A s) (by decide) (hs _ zs_m1.1) (va_eqt (hs _ zs_m1.2)) (fun j hj => va_eqt (hs _ (zs_m2 j hj))) hA
  obtain ⟨adK, adV, hS, hE⟩ := vk_Sof (A := zl_A s) (N := 5) (tm := zs_tm) (len := zc_len) (byt := zc_byt) zs_s0 (fun i hi => hs _ (zs_s1 i hi)) (fun i hi => hs _ (zs_s2 i hi)) (fun i hi => hs _ (zs_s3 i hi)) (fun i hi => hs _ (zs_s4 i hi)) (fun i hi j hj => hs _ (zs_s5 i hi j hj)) (fun i j hi hj hn => (zs_s6 i hi j hj hn).imp (fun h => hs _ h) (fun h => hs _ h)) hA
  have e1 : ∀ i, i < 5 → (fun n => if n = 0 then t0 else if n = 1 then t1 else if n < 7 then adK (n - 2) else adV (n - 7)) (2 + i) = adK i := by
    intro i hi
    show (if 2 + i = 0 then t0 else if 2 + i = 1 then t1 else if 2 + i < 7 then adK (2 + i - 2) else adV (2 + i - 7)) = adK i
    rw [if_neg (by omega), if_neg (by omega), if_pos (by omega), show 2 + i - 2 = i by omega]
  have e2 : ∀ i, i < 5 → (fun n => if n = 0 then t0 else if n = 1 then t1 else if n < 7 then adK (n - 2) else adV (n - 7)) (7 + i) = adV i := by
    intro i hi
    show (if 7 + i = 0 then t0 else if 7 + i = 1 then t1 else if 7 + i < 7 then adK (7 + i - 2) else adV (7 + i - 7)) = adV i
    rw [if_neg (by omega), if_neg (by omega), if_neg (by omega), show 7 + i - 7 = i by omega]
  refine ⟨fun n => if n = 0 then t0 else if n = 1 then t1 else if n < 7 then adK (n - 2) else adV (n - 7), ?_, ⟨?_, hT0, ?_, hT1, ?_, ?_, ?_, ?_⟩, ?_⟩
  · exact fun w hw => zc_Nof hw (hts w (List.mem_filter.mp hw).1)
  · exact zs_st (hts _ zs_w1.1) (hts _ zs_w2.1) ht0
  · exact zs_st (hts _ zs_w1.2.1) (hts _ zs_w2.1) ht1
  · exact va_Zof (hts _ zs_w1.2.2.1) (hts _ zs_w2.2.1) (va_eqt (hs _ zs_c1.1)) hA
  · exact va_Zqof (hts _ zs_w1.2.2.2) (hts _ zs_w2.2.2) (hs _ zs_c1.2) hA
  · intro i hi
    have := hS.1 i hi
    rw [e1 i hi, e2 i hi]
    exact this
  · intro i j hi hj e
    rw [e1 i hi, e1 j hj] at e
    exact hS.2 i j hi hj e
  · intro i hi
    rw [e1 i hi]
    exact vk_R.of (hts _ (zs_w3 i hi)) (hE i hi)
theorem zs_cl {s : State} {A : Array Value} (hts : ∀ w ∈ lw_good, w.before A s = true) : ∃ D : va_G, ∀ (c : Nat) (q : vw_C), vwCl[c]? = some q → u_Kn s q.1 q.2.1 q.2.2 (D.1 c) (D.2 c) := by
  have h : ∀ k : Nat, ∃ r : ClassId × (Nat → Nat), ∀ q : vw_C, vwCl[k]? = some q → u_Kn s q.1 q.2.1 q.2.2 r.1 r.2 := by
    intro k
    match k with
    | 0 => obtain ⟨a, b, h⟩ := u_known (n := 10) hts gwX0 (hts _ bn_X0); exact ⟨(a, b), fun q hq => by cases hq; exact h⟩
    | 1 => obtain ⟨a, b, h⟩ := u_known (n := 4) hts gwX1 (hts _ bn_X1); exact ⟨(a, b), fun q hq => by cases hq; exact h⟩
    | 2 => obtain ⟨a, b, h⟩ := u_known (n := 8) hts gwX2 (hts _ bn_X2); exact ⟨(a, b), fun q hq => by cases hq; exact h⟩
    | 3 => obtain ⟨a, b, h⟩ := u_known (n := 14) hts gwX3 (hts _ bn_X3); exact ⟨(a, b), fun q hq => by cases hq; exact h⟩
    | 4 => obtain ⟨a, b, h⟩ := u_known (n := 8) hts gwX4 (hts _ bn_X4); exact ⟨(a, b), fun q hq => by cases hq; exact h⟩
    | 5 => obtain ⟨a, b, h⟩ := u_known (n := 4) hts gwX5 (hts _ bn_X5); exact ⟨(a, b), fun q hq => by cases hq; exact h⟩
    | 6 => obtain ⟨a, b, h⟩ := u_known (n := 7) hts gwX6 (hts _ bn_X6); exact ⟨(a, b), fun q hq => by cases hq; exact h⟩
    | 7 => obtain ⟨a, b, h⟩ := u_known (n := 3) hts gwX7 (hts _ bn_X7); exact ⟨(a, b), fun q hq => by cases hq; exact h⟩
    | 8 => obtain ⟨a, b, h⟩ := u_known (n := 7) hts gwX8 (hts _ bn_X8); exact ⟨(a, b), fun q hq => by cases hq; exact h⟩
    | 9 => obtain ⟨a, b, h⟩ := u_known (n := 40) hts gwX9 (hts _ bn_X9); exact ⟨(a, b), fun q hq => by cases hq; exact h⟩
    | k + 10 => obtain ⟨a, b, h⟩ := u_known (n := 10) hts gwX0 (hts _ bn_X0); exact ⟨(a, b), fun q hq => by cases hq⟩
  obtain ⟨r, hr⟩ := Classical.axiomOfChoice h
  exact ⟨(fun k => (r k).1, fun k => (r k).2), fun c q hq => hr c q hq⟩
theorem zs_ty {s : State} {A : Array Value} (hts : ∀ w ∈ lw_good, w.before A s = true) : ∃ c : Nat → ClassId, ∀ (k : Nat) (q : ClassId × FieldType), (zc_ty c)[k]? = some q → ArrOfT s q.1 q.2 ∧ va_RA s q.1 q.2 := by
  obtain ⟨c0, k0, m0, h0, i0, j0⟩ := Cond.arrayClass_spec (hts _ ba_I)
  obtain ⟨c1, k1, m1, h1, i1, j1⟩ := Cond.arrayClass_spec (hts _ ba_Z)
  obtain ⟨c2, k2, m2, h2, i2, j2⟩ := Cond.arrayClass_spec (hts _ ba_J)
  refine ⟨fun n => if n = 0 then c0 else if n = 1 then c1 else c2, ?_⟩
  intro k q hq
  match k, hq with
  | 0, hq => cases hq; exact ⟨fun n z => ⟨fun k h => (by cases h), k0, i0, m0, j0⟩, h0⟩
  | 1, hq => cases hq; exact ⟨fun n z => ⟨fun k h => (by cases h), k1, i1, m1, j1⟩, h1⟩
  | 2, hq => cases hq; exact ⟨fun n z => ⟨fun k h => (by cases h), k2, i2, m2, j2⟩, h2⟩
/-- the law's body before its worlds stand -/
def zs_G (K : zc_K) (G : zc_X) : Prop := zc_B 4 RL cL_law G ∧ zg_R G = room_1 ∧ va_K K.2.1 vwCl (zc_ty K.2.2.1) (zg_s G) ∧ ∀ x ∈ lw_nest, va_Nw x (zg_s G)
section ZS
variable {k n : Nat} {K : zc_K} {G : zc_X} {ws ws' : va_W} {lv : List (Nat × Value)} {pc : Nat} {st : List Value}
theorem zs_new (hG : zs_G K G) {idx ci N : Nat} {C : String} {T : u_T} {ty : Nat → FieldType} {fs : List Value} (hd : decode cL_law pc = .ok (.new idx, 3)) (hD : va_D (zl_A (zg_s G)) ws) (hin : ∀ x ∈ u_ws C T N, x ∈ lw_good) (hty : ∀ k, k < N → parseFieldDescriptor (T k).2.2.1 = some (ty k)) (hcl : Cond.classLink RL idx C ∈ lw_good) (hins : Cond.instantiable C N ∈ lw_good) (hini : Cond.initialized C ∈ lw_good) (hc : vwCl[ci]? = some (C, T, N)) (hfs : ∀ j, j < N → defaultValue (ty j) = vp_V fs j) (h1 : k + 1 ≤ room_1.cells) (h2 : n + N ≤ room_1.slots)
    (kk : ∀ q : Nat, va_D (zl_A (zg_s G)) (ws ++ [(q, .inr (ci, fs))]) → zc_V 4 K (zg_up G (k + 1) (n + N)) (zb_I K G (zl_A (zg_s G)) (ws ++ [(q, .inr (ci, fs))])) lv (pc + 3) (.ref q :: st)) : zc_V 4 K (zg_up G k n) (zb_I K G (zl_A (zg_s G)) ws) lv pc st := by
  intro H locs ls hI hl
  obtain ⟨hB, hRm, hK, hN⟩ := hG
  exact va_new hB.1 hB.2.1 hB.2.2.2.2 hin ty hty hB.2.2.2.1 (hB.2.2.2.2 _ hcl) (hB.2.2.2.2 _ hins) (hB.2.2.2.2 _ hini) hK hI.1 hD hI.2 (fun _ h => h) hc hfs (by rw [hRm]; exact h1) (by rw [hRm]; exact h2) hd (fun q H1 hP hD hS => kk q hD H1 locs ls ⟨hP, hS⟩ hl)
theorem zs_callI (hG : zs_G K G) {idx nn nL' mc' ms' a : Nat} {y : MethodName} {cc' : ByteArray} {rm' : Room} {e0 : va_E} {F' : (Nat → Nat) → va_W} {As rest : List Value} {wr : va_W} (q0 : Nat) (isR : List Nat) (hd : decode cL_law pc = .ok (.invokespecial idx, 3)) (hD : va_D (zl_A (zg_s G)) ws) (hcode : Cond.code y cc' nL' none ∈ lw_good) (hini : Cond.initialized y.cls ∈ lw_good) (hcl : y.cls ≠ "java/lang/invoke/MethodHandle" ∧ y.cls ≠ "java/lang/invoke/VarHandle" ∧ (parseMethodDescriptor y.desc).map (fun d => d.parameters.length) = some nn) (hlink : Cond.methodLink RL idx y ∈ lw_good) (hinm : Cond.instanceMethod y ∈ lw_good) (hyn : y.name = "<init>")
    (hM : zb_M K y cc' nL' rm' mc' ms' (.ref a :: As) [(a, e0)] F') (hn : As.length = nn) (hst : st = As.reverse ++ .ref a :: rest) (hwd : (rest.map fun v => v.category).sum ≤ 8) (hrm : rm'.frames + 1 ≤ room_1.frames ∧ 8 + (nL' + 11) + rm'.locals ≤ room_1.locals ∧ rm'.cells = mc' ∧ rm'.slots = ms') (h1 : k + mc' ≤ room_1.cells) (h2 : n + ms' ≤ room_1.slots) (he : ws[q0]? = some (a, e0)) (hR : isR.map (fun i => ws[i]?) = wr.map some) (hnd : va_nd isR = true) (hdis : ∀ i ∈ isR, i ∉ [q0])
    (kk : ∀ q : Nat → Nat, va_D (zl_A (zg_s G)) (wr ++ F' q) → zc_V 4 K (zg_up G (k + mc') (n + ms')) (zb_I K G (zl_A (zg_s G)) (wr ++ F' q)) lv (pc + 3) rest) : zc_V 4 K (zg_up G k n) (zb_I K G (zl_A (zg_s G)) ws) lv pc st := by
  intro H locs ls hI hl
  obtain ⟨hB, hRm, hK, hN⟩ := hG
  subst hst
  have hA : ∀ q : Nat, (zg_s G).heap.size ≤ q → zl_A (zg_s G) q := fun _ h => h
  have hC : [q0].map (fun i => ws[i]?) = [(a, e0)].map some := by simp [he]
  have hPc : va_P K.2.1 vwCl [(a, e0)] H := hI.1.sub [q0] (by simp [he])
  have hFc := va_free (wc := [(a, e0)]) hD hI.2 hA [q0] hC
  have hp : PreS (zg_s G) H (zb_Pc K H.size [(a, e0)] (.ref a :: As)) (.ref a :: As) := ⟨fun b U g mk q => by
      obtain ⟨e, hz, hP, hK, hZ⟩ := q
      exact ⟨e, hz, hP, va_K.moved (u := U) (U := U.calling g mk b) (Vm.Alike.refl U.vm) hK, fun x hx => zc_Nsame (u := U) (U := U.calling g mk b) hx rfl (hZ x hx)⟩, fun U hU hW => ⟨rfl, by rw [hU], by rw [hU]; exact hPc, va_K.moved hW.alike hK, fun x hx => zc_Nwarm hx hW (hN x hx)⟩⟩
  have hroom : rm'.frames + 1 ≤ (zg_R G).frames ∧ 8 + (nL' + 11) + rm'.locals ≤ (zg_R G).locals := by rw [hRm]; exact ⟨hrm.1, hrm.2.1⟩
  have hS : CallFix (zg_p G) (zg_m G) (zg_c G) cL_law 4 (zg_s G) (zg_a G) lw_good RL := ⟨hB.1, hB.2.1, hB.2.2.1, hB.2.2.2.1, hB.2.2.2.2⟩
  have hr := va_runI (l := K.1) (e := zg_e G) (R := zg_R G) (below := zg_b G) (meth := zg_M G) (H := H) (locs := locs) (cells := k) (slots := n) (As := As) (rest := rest) (b := a) (n := nn) (g := F0 (zg_m G) pc ls (As.reverse ++ .ref a :: rest)) hS (hM H.size) ⟨callB_of nn hB.2.2.2.2 (zc_gin hcode) rfl hrm.2.2.1 hrm.2.2.2 (hB.2.2.2.2 _ hini) (hB.2.2.2.2 _ hlink) hcl hroom, hyn, hB.2.2.2.2 _ hinm⟩ hp rfl hn hl.1 rfl (lv_room hwd) hd ⟨by rw [hRm]; exact h1, by rw [hRm]; exact h2⟩
  intro T hT X
  obtain ⟨v, st₀, t, T', L, hh0, X', hL, e1, e2, ⟨⟨q, hv, hP1, hD1⟩, hz, hk⟩, sts⟩ := hr T hT X
  cases hv
  rw [hh0] at hz hk
  obtain ⟨hP2, hD2⟩ := va_join (wr := wr) (w1 := F' q) hI.1 hD [q0] isR hC hR hnd hdis (H1 := T'.heap) (fun x a1 a2 => by rw [e1]; exact hk x a1 a2) hFc (by rw [e1]; exact hP1) hD1
  obtain ⟨t2, a1, b1⟩ := kk q hD2 T'.heap (locs ++ L) ls ⟨hP2, Nat.le_trans hI.2.1 (by rw [e1]; exact hz), fun x a1 a2 => by rw [e1, hk x (Nat.lt_of_lt_of_le a1 hI.2.1) (fun z => a2 (hFc x z))]; exact hI.2.2.1 x a1 a2, fun x hx => by
      rcases List.mem_append.mp hx with h | h
      · exact hI.2.2.2 x h
      · exact hFc _ (hL x h)⟩ hl T' rfl X'
  exact ⟨t2, sts t2 a1, b1⟩
end ZS
theorem zs_len (sh : List zc_H) (c : Nat → ClassId) (a : Nat → Nat) (σ : zc_S) : (zc_W sh c a σ).length = sh.length := by simp [zc_W]
theorem zs_L {sh sh' : List zc_H} {c : Nat → ClassId} {a a' : Nat → Nat} {σ σ' : zc_S} {i : Nat} (h : i < sh.length) : ∃ e, (zc_W sh c a σ ++ zc_W sh' c a' σ')[i]? = some (a i, e) := by
  rw [List.getElem?_append_left (by rw [zs_len]; exact h)]
  exact ⟨_, zc_at (List.getElem?_eq_getElem h)⟩
theorem zs_R {sh sh' : List zc_H} {c : Nat → ClassId} {a a' : Nat → Nat} {σ σ' : zc_S} {i : Nat} (h : i < sh'.length) : ∃ e, (zc_W sh c a σ ++ zc_W sh' c a' σ')[sh.length + i]? = some (a' i, e) := by
  rw [List.getElem?_append_right (by rw [zs_len]; omega), zs_len, show sh.length + i - sh.length = i by omega]
  exact ⟨_, zc_at (List.getElem?_eq_getElem h)⟩
theorem zs_two {A : Nat → Prop} {sh sh' : List zc_H} {c : Nat → ClassId} {a a' : Nat → Nat} {σ σ' : zc_S} (h : va_D A (zc_W sh c a σ ++ zc_W sh' c a' σ')) : zc_inj sh a ∧ zc_inj sh' a' ∧ (∀ i j, i < sh.length → j < sh'.length → a i ≠ a' j) ∧ (∀ i, i < sh.length → A (a i)) ∧ (∀ j, j < sh'.length → A (a' j)) := by
  refine ⟨fun i j hi hj e => ?_, fun i j hi hj e => ?_, fun i j hi hj e => ?_, fun i hi => ?_, fun j hj => ?_⟩
  · obtain ⟨x, hx⟩ := zs_L (c := c) (a := a) (a' := a') (σ := σ) (σ' := σ') (sh' := sh') hi
    obtain ⟨y, hy⟩ := zs_L (c := c) (a := a) (a' := a') (σ := σ) (σ' := σ') (sh' := sh') hj
    exact h.1 _ _ _ _ hx hy e
  · obtain ⟨x, hx⟩ := zs_R (c := c) (a := a) (a' := a') (σ := σ) (σ' := σ') (sh := sh) hi
    obtain ⟨y, hy⟩ := zs_R (c := c) (a := a) (a' := a') (σ := σ) (σ' := σ') (sh := sh) hj
    have := h.1 _ _ _ _ hx hy e
    omega
  · obtain ⟨x, hx⟩ := zs_L (c := c) (a := a) (a' := a') (σ := σ) (σ' := σ') (sh' := sh') hi
    obtain ⟨y, hy⟩ := zs_R (c := c) (a := a) (a' := a') (σ := σ) (σ' := σ') (sh := sh) hj
    have := h.1 _ _ _ _ hx hy e
    omega
  · obtain ⟨x, hx⟩ := zs_L (c := c) (a := a) (a' := a') (σ := σ) (σ' := σ') (sh' := sh') hi
    exact h.2 _ _ hx
  · obtain ⟨y, hy⟩ := zs_R (c := c) (a := a) (a' := a') (σ := σ) (σ' := σ') (sh := sh) hj
    exact h.2 _ _ hy
theorem zs_P {D : va_G} {cl : List vw_C} {w1 w2 : va_W} {H : Heap} (h : va_P D cl (w1 ++ w2) H) : va_P D cl w1 H ∧ va_P D cl w2 H := by
  refine ⟨fun k q hk => h k q ?_, fun k q hk => h (w1.length + k) q ?_⟩
  · rw [List.getElem?_append_left (List.getElem?_eq_some_iff.mp hk).1]; exact hk
  · rw [List.getElem?_append_right (by omega), show w1.length + k - w1.length = k by omega]; exact hk
/-! the first states keep their bounds -/
def zs_ok (b : Int × Int × Int) (x : Int) : Prop := b.1 ≤ x ∧ x ≤ b.2.1 ∧ (x = b.1 ∨ b.2.2 ≤ x)
theorem zs_bd {tb : zc_tb} {x : Int} (h1 : -2147483648 ≤ x) (h2 : x ≤ 2147483647) (h : ∀ r ∈ tb, ∀ b ∈ r, zs_ok b x) (k j : Nat) : zs_ok (zc_bd tb k j) x := by
  have hr : ∀ b ∈ tb.getD k [], zs_ok b x := by
    intro b hb
    by_cases hk : k < tb.length
    · rw [List.getD_eq_getElem?_getD, List.getElem?_eq_getElem hk] at hb
      exact h _ (List.getElem_mem hk) b hb
    · rw [List.getD_eq_getElem?_getD, List.getElem?_eq_none (by omega)] at hb
      exact absurd hb List.not_mem_nil
  have hw : zs_ok (-2147483648, 2147483647, -2147483648) x := ⟨h1, h2, Or.inr h1⟩
  unfold zc_bd
  split
  · exact hw
  · rename_i b e
    rw [e] at hr
    exact hr b List.mem_cons_self
  · generalize tb.getD k [] = l at hr
    by_cases hj : j < l.length
    · rw [List.getD_eq_getElem?_getD, List.getElem?_eq_getElem hj]
      exact hr _ (List.getElem_mem hj)
    · rw [List.getD_eq_getElem?_getD, List.getElem?_eq_none (by omega)]
      exact hw
theorem zs_upd {b : Int × Int × Int} {f : Nat → Int32} {i : Nat} {v : Int32} (h : ∀ j, zs_ok b (f j).toInt) (hv : b.1 ≤ v.toInt ∧ v.toInt ≤ b.2.1 ∧ (v.toInt = b.1 ∨ b.2.2 ≤ v.toInt)) : ∀ j, zs_ok b (upd f i v j).toInt := by
  intro j
  unfold upd
  split
  · exact hv
  · exact h j
