/-! THE CLAIM OUT OF ONE WALK OF THE LAW'S BODY. Your part is whole_start (and what it stands on); all else here is the same for every law, but numbers. -/
def R_law : String := "NextFiguresLaw"
def lw_P (b : Addr) (xs : List Int32) (args : Array Value) (s : State) : Prop := args = #[.ref b] ∧ s.IntsAt b xs ∧ xs.length ≤ 4608 ∧ (Jvm.Cond.and given_1 narrow_1).before args s = true
def lw_Q (_ : Array Value) (s : State) (o : Outcome) (t : State) : Prop := o = .returned (some (.int 1)) ∧ Framed s o t [] 600000 7302250
def lw_Z (below : List Frame) (a : Array Value) (s : State) : State → Prop := fun t => ∃ o, t.status = .running ∧ Ended t below o ∧ lw_Q a s o t
/-- the law's own end, with 1 on the stack, nothing written that was there before, its room as the claim has it -/
theorem lw_ret {p : Program} {l : Launch} {e : Env} {s : State} {m : MethodId} {below : List Frame} {meth : Method} {c : Code} {b : Nat} (hx : p.tables.exec = Jvm.exec) (hb : c.code = code) (hr : meth.sig.returnType = ret) (hlocks : meth.locks = false) {pc : Nat} {H : Heap} {ls : Array Slot} (hdg : decode code pc = .ok (.ireturn, 1)) : W p l e room_1 s m #[Value.ref b] below meth c H [] 600000 7302250 (lw_Z below #[Value.ref b] s) (F0 m pc ls [.int 1]) := by
  intro T hT X
  obtain ⟨fs, hret, hrun, hended, hW, hframe⟩ := X.leave (v := some (.int 1)) (hlocks := hlocks) (fun h => by rw [hr] at h; cases h)
  have hmeth' : T.vm.method? m = some meth := X.method'
  refine ⟨T.setFrames fs, ?_, .returned (some (.int 1)), hrun, hended, rfl, ⟨_, rfl⟩, hW, hframe⟩
  jvm_step X.here [X.here.top, hx, hb, hdg, hmeth', hr, ret, narrow_b1]
  (try refine ⟨rfl, ?_⟩); (try refine ⟨rfl, ?_⟩)
  first | (intro acts; rw [hret _ acts rfl rfl rfl]) | rw [hret _ _ rfl rfl rfl]
  exact Steps.refl _
/-- what holds at the law's entry: the machine, the code, the tables' words (any of lw_tbl by 'hts w (by decide +kernel)'), the script of L ints xs at the cell b, what the Statement gives of the start (any of its parts by flat_of_before) -/
def lw_At (p : Program) (s : State) (m : MethodId) (meth : Method) (c : Code) (b L : Nat) (xs : Nat → Int32) : Prop :=
  p.tables.exec = Jvm.exec ∧ c.code = code ∧ meth.sig.returnType = ret ∧ c.maxLocals = 4 ∧ s.vm.findClass R_law = some m.cls ∧ (∀ w ∈ lw_tbl, w.before #[Value.ref b] s = true) ∧ va_X b L xs s s.heap ∧ b < s.heap.size ∧ meth.locks = false ∧ (Jvm.Cond.and given_1 narrow_1).before #[Value.ref b] s = true
theorem zs_loop {K : zc_K} {G : zc_X} {Z : zl_T} (hG : zl_G K G Z) (hr : (zg_M G).sig.returnType = ret) (hlk : (zg_M G).locks = false) (ha : zg_a G = #[Value.ref (zt_b Z)]) (hQ : zg_Q G = lw_Z (zg_b G) #[Value.ref (zt_b Z)] (zg_s G)) : ∀ (f ni : Nat) {i : Int32} {σX σM : zc_S}, zt_L Z < f + ni → i.toInt = (ni : Int) → ni ≤ zt_L Z → zl_v σX σM → zc_V 4 K G (zl_I K G Z σX σM) [(3, .int i), (2, .ref (zt_M Z 0)), (1, .ref (zt_X Z 0)), (0, .ref (zt_b Z))] 18 [] := by
  have hB := hG.1
  have hL := hG.2.2.2.2.2.2.1
  intro f
  induction f with
  | zero =>
    intro ni i σX σM h1 h2 h3 hv
    omega
  | succ f ih =>
    intro ni i σX σM h1 hi h3 hv
    refine zr_iload_n hB 0 dL_law_18 rfl ?_
    refine zr_aload_n hB 3 dL_law_19 rfl ?_
    refine zl_slen hG dL_law_20 (fun zl hzl => ?_)
    refine zr_bipush hB dL_law_21 rfl (fun z9 hz9 => ?_)
    refine zr_isub hB dL_law_23 (by omega) (by omega) (fun zd hzd => ?_)
    refine zr_icmp_gt hB dL_law_24 (tgt := 1786) rfl (fun hc => ?_) (fun hc => ?_)
    · refine zr_iconst hB dL_law_1786 rfl (fun z1 hz1 => ?_)
      have e1 : z1 = 1 := by rw [zn_eq, hz1]; rfl
      subst e1
      intro H locs ls hI hl
      refine va_forget (fun q hq => hI.2.2.2.2 q hq) ?_
      rw [hG.2.1, ha, hG.2.2.2.2.2.2.2.1, hG.2.2.2.2.2.2.2.2.1, hQ]
      exact lw_ret hB.1 hB.2.1 hr hlk dL_law_1787
    · refine zr_aload_n hB 3 dL_law_27 rfl ?_
      refine zr_iload_n hB 0 dL_law_28 rfl ?_
      refine zl_sld hG ni dL_law_29 hi (by omega) ?_
      refine zr_bipush hB dL_law_30 rfl (fun z31 hz31 => ?_)
      refine zr_iand hB dL_law_32 (fun za hza => ?_)
      obtain ⟨a1, a2⟩ := zn_and (k := 5) hza hz31 (by decide) (by decide)
      have kk : ∀ σX' σM', zl_v σX' σM' → zc_V 4 K G (zl_I K G Z σX' σM') [(3, .int i), (2, .ref (zt_M Z 0)), (1, .ref (zt_X Z 0)), (0, .ref (zt_b Z))] 1780 [] := by
        intro σX' σM' hv'
        refine zr_iinc hB 0 dL_law_1780 rfl (by decide) rfl (by omega) (by omega) (fun zi hzi lv' hlv => ?_)
        subst hlv
        refine zr_goto hB dL_law_1783 (tgt := 18) rfl ?_
        exact ih (ni + 9) (by omega) (by omega) (by omega) hv'
      have hcs : za.toInt = 0 ∨ za.toInt = 1 ∨ za.toInt = 2 ∨ za.toInt = 3 ∨ za.toInt = 4 ∨ za.toInt = 5 ∨ za.toInt = 6 ∨ za.toInt = 7 ∨ za.toInt = 8 ∨ za.toInt = 9 ∨ za.toInt = 10 ∨ za.toInt = 11 ∨ za.toInt = 12 ∨ za.toInt = 13 ∨ za.toInt = 14 ∨ za.toInt = 15 ∨ za.toInt = 16 ∨ za.toInt = 17 ∨ za.toInt = 18 ∨ za.toInt = 19 ∨ za.toInt = 20 ∨ za.toInt = 21 ∨ za.toInt = 22 ∨ za.toInt = 23 ∨ za.toInt = 24 ∨ za.toInt = 25 ∨ za.toInt = 26 ∨ za.toInt = 27 ∨ za.toInt = 28 ∨ za.toInt = 29 ∨ za.toInt = 30 ∨ za.toInt = 31 := by omega
      rcases hcs with h | h | h | h | h | h | h | h | h | h | h | h | h | h | h | h | h | h | h | h | h | h | h | h | h | h | h | h | h | h | h | h
      · exact zr_tabIn hB 0 dL_law_33 (tgt := 176) (by omega) (by omega) rfl rfl (lc_0 hG hi (by omega) hv kk)
      · exact zr_tabIn hB 1 dL_law_33 (tgt := 199) (by omega) (by omega) rfl rfl (lc_1 hG hi (by omega) hv kk)
      · exact zr_tabIn hB 2 dL_law_33 (tgt := 242) (by omega) (by omega) rfl rfl (lc_2 hG hi (by omega) hv kk)
      · exact zr_tabIn hB 3 dL_law_33 (tgt := 285) (by omega) (by omega) rfl rfl (lc_3 hG hi (by omega) hv kk)
      · exact zr_tabIn hB 4 dL_law_33 (tgt := 344) (by omega) (by omega) rfl rfl (lc_4 hG hi (by omega) hv kk)
      · exact zr_tabIn hB 5 dL_law_33 (tgt := 397) (by omega) (by omega) rfl rfl (lc_5 hG hi (by omega) hv kk)
      · exact zr_tabIn hB 6 dL_law_33 (tgt := 420) (by omega) (by omega) rfl rfl (lc_6 hG hi (by omega) hv kk)
      · exact zr_tabIn hB 7 dL_law_33 (tgt := 433) (by omega) (by omega) rfl rfl (lc_7 hG hi (by omega) hv kk)
      · exact zr_tabIn hB 8 dL_law_33 (tgt := 446) (by omega) (by omega) rfl rfl (lc_8 hG hi (by omega) hv kk)
      · exact zr_tabIn hB 9 dL_law_33 (tgt := 479) (by omega) (by omega) rfl rfl (lc_9 hG hi (by omega) hv kk)
      · exact zr_tabIn hB 10 dL_law_33 (tgt := 532) (by omega) (by omega) rfl rfl (lc_10 hG hi (by omega) hv kk)
      · exact zr_tabIn hB 11 dL_law_33 (tgt := 595) (by omega) (by omega) rfl rfl (lc_11 hG hi (by omega) hv kk)
      · exact zr_tabIn hB 12 dL_law_33 (tgt := 648) (by omega) (by omega) rfl rfl (lc_12 hG hi (by omega) hv kk)
      · exact zr_tabIn hB 13 dL_law_33 (tgt := 723) (by omega) (by omega) rfl rfl (lc_13 hG hi (by omega) hv kk)
      · exact zr_tabIn hB 14 dL_law_33 (tgt := 776) (by omega) (by omega) rfl rfl (lc_14 hG hi (by omega) hv kk)
      · exact zr_tabIn hB 15 dL_law_33 (tgt := 851) (by omega) (by omega) rfl rfl (lc_15 hG hi (by omega) hv kk)
      · exact zr_tabIn hB 16 dL_law_33 (tgt := 926) (by omega) (by omega) rfl rfl (lc_16 hG hi (by omega) hv kk)
      · exact zr_tabIn hB 17 dL_law_33 (tgt := 1001) (by omega) (by omega) rfl rfl (lc_17 hG hi (by omega) hv kk)
      · exact zr_tabIn hB 18 dL_law_33 (tgt := 1088) (by omega) (by omega) rfl rfl (lc_18 hG hi (by omega) hv kk)
      · exact zr_tabIn hB 19 dL_law_33 (tgt := 1171) (by omega) (by omega) rfl rfl (lc_19 hG hi (by omega) hv kk)
      · exact zr_tabIn hB 20 dL_law_33 (tgt := 1270) (by omega) (by omega) rfl rfl (lc_20 hG hi (by omega) hv kk)
      · exact zr_tabIn hB 21 dL_law_33 (tgt := 1333) (by omega) (by omega) rfl rfl (lc_21 hG hi (by omega) hv kk)
      · exact zr_tabIn hB 22 dL_law_33 (tgt := 1408) (by omega) (by omega) rfl rfl (lc_22 hG hi (by omega) hv kk)
      · exact zr_tabIn hB 23 dL_law_33 (tgt := 1451) (by omega) (by omega) rfl rfl (lc_23 hG hi (by omega) hv kk)
      · exact zr_tabIn hB 24 dL_law_33 (tgt := 1504) (by omega) (by omega) rfl rfl (lc_24 hG hi (by omega) hv kk)
      · exact zr_tabIn hB 25 dL_law_33 (tgt := 1537) (by omega) (by omega) rfl rfl (lc_25 hG hi (by omega) hv kk)
      · exact zr_tabIn hB 26 dL_law_33 (tgt := 1560) (by omega) (by omega) rfl rfl (lc_26 hG hi (by omega) hv kk)
      · exact zr_tabIn hB 27 dL_law_33 (tgt := 1583) (by omega) (by omega) rfl rfl (lc_27 hG hi (by omega) hv kk)
      · exact zr_tabIn hB 28 dL_law_33 (tgt := 1626) (by omega) (by omega) rfl rfl (lc_28 hG hi (by omega) hv kk)
      · exact zr_tabIn hB 29 dL_law_33 (tgt := 1669) (by omega) (by omega) rfl rfl (lc_29 hG hi (by omega) hv kk)
      · exact zr_tabIn hB 30 dL_law_33 (tgt := 1744) (by omega) (by omega) rfl rfl (lc_30 hG hi (by omega) hv kk)
      · exact zr_tabIn hB 31 dL_law_33 (tgt := 1757) (by omega) (by omega) rfl rfl (lc_31 hG hi (by omega) hv kk)
