/-! THE CLAIM OUT OF ONE WALK OF THE LAW'S BODY. Your part is whole_start (and what it stands on); all else here is the same for every law, but numbers. -/
def R_law : String := "SlotMapsLaw"
def lw_P (b : Addr) (xs : List Int32) (args : Array Value) (s : State) : Prop := args = #[.ref b] ∧ s.IntsAt b xs ∧ xs.length ≤ 260 ∧ (Jvm.Cond.and given_1 narrow_1).before args s = true
def lw_Q (_ : Array Value) (s : State) (o : Outcome) (t : State) : Prop := o = .returned (some (.int 1)) ∧ Framed s o t [] 600000 7302250
def lw_Z (below : List Frame) (a : Array Value) (s : State) : State → Prop := fun t => ∃ o, t.status = .running ∧ Ended t below o ∧ lw_Q a s o t
/-- the law's own end, with 1 on the stack, nothing written that was there before, its room as the claim has it -/
theorem lw_ret {p : Program} {l : Launch} {e : Env} {s : State} {m : MethodId} {below : List Frame} {meth : Method} {c : Code} {b : Nat} (hx : p.tables.exec = Jvm.exec) (hb : c.code = code) (hr : meth.sig.returnType = ret) (hlocks : meth.locks = false) {pc : Nat} {H : Heap} {ls : Array Slot} (hdg : decode code pc = .ok (.ireturn, 1)) : W p l e room_1 s m #[Value.ref b] below meth c H [] 600000 7302250 (lw_Z below #[Value.ref b] s) (F0 m pc ls [.int 1]) := by
  intro T hT X
  obtain ⟨fs, hret, hrun, hended, hW, hframe⟩ := X.leave (v := some (.int 1)) (hlocks := hlocks) (fun h => by rw [hr] at h; cases h)
  have hmeth' : T.vm.method? m = some meth := X.method'
  refine ⟨T.setFrames fs, ?_, .returned (some (.int 1)), hrun, hended, rfl, ⟨_, rfl⟩, hW, hframe⟩
  jvm_step X.here [X.here.top, hx, hb, hdg, hmeth', hr, ret, narrow_b1]
  (try refine ⟨rfl, ?_⟩); (try refine ⟨rfl, ?_⟩)
  first | (intro acts; rw [hret _ acts rfl rfl rfl]) | rw [hret _ _ rfl rfl rfl]
  exact Steps.refl _
/-- what holds at the law's entry: the machine, the code, the tables' words (any of lw_tbl by 'hts w (by decide +kernel)'), the script of L ints xs at the cell b, what the Statement gives of the start (any of its parts by flat_of_before) -/
def lw_At (p : Program) (s : State) (m : MethodId) (meth : Method) (c : Code) (b L : Nat) (xs : Nat → Int32) : Prop :=
  p.tables.exec = Jvm.exec ∧ c.code = code ∧ meth.sig.returnType = ret ∧ c.maxLocals = 8 ∧ s.vm.findClass R_law = some m.cls ∧ (∀ w ∈ lw_tbl, w.before #[Value.ref b] s = true) ∧ va_X b L xs s s.heap ∧ b < s.heap.size ∧ meth.locks = false ∧ (Jvm.Cond.and given_1 narrow_1).before #[Value.ref b] s = true
abbrev ZF : Nat → Int32 := fun _ => nI 0
theorem K3_0 : K3 ZF := fun s _ h => absurd (show (nI 0 : Int32) = nI 3 from h) (by decide)
theorem rn_00 {f t : Nat → Int32} : rnA f t 0 = (nI 0, f) := rnG_end (Nat.le_refl _)
set_option maxHeartbeats 40000000 in
set_option maxRecDepth 100000 in
theorem law_body {P0 : Program} {l : Launch} {e0 : Env} {s0 : State} {m0 : MethodId} {b0 : List Frame} {t0 : Method} {c0 : Code} {D : va_G} {cI cG cC cR : ClassId} {b L : Nat} {xs : Nat → Int32} (hL : L ≤ 260) (C0 : lw_At P0 s0 m0 t0 c0 b L xs) (hK : KK D (TY cI cG cC cR) s0) {aa : Nat → Nat → Nat} {x0 x1 x2 pp tt : Nat} {VV : Nat → Nat → Nat → Int32} {TV : Nat → Nat → Int32} {H : Heap} {locs : List Loc} {ls : Array Slot} (hXI : XI ZF ZF 0 0 VV) (hP : va_P D vwCl (XW aa x0 x1 x2 pp tt cI cG cC cR VV TV (fun _ => nI 0) (fun _ => 0) 0 0 0) H) (hD : va_D (fun q : Nat => s0.heap.size ≤ q) (XW aa x0 x1 x2 pp tt cI cG cC cR VV TV (fun _ => nI 0) (fun _ => 0) 0 0 0)) (hS : va_S (fun q : Nat => s0.heap.size ≤ q) s0.heap H locs) (hl : lv_has ls 8 [(1, .ref x0), (0, .ref b)]) : W P0 l e0 room_1 s0 m0 #[Value.ref b] b0 t0 c0 H locs 69 621 (lw_Z b0 #[Value.ref b] s0) (F0 m0 8 ls []) := by
  obtain ⟨hx, hb, hr, hml, hown, hts0, hX, hbl, hlocks, hgv⟩ := C0
  have hts : ∀ w ∈ wsL_law, w.before #[Value.ref b] s0 = true := fun w hw => hts0 w (wsL_law_in w hw)
  have F : CallFix P0 m0 c0 cL_law 8 s0 #[Value.ref b] wsL_law RL := ⟨hx, hb, hml, hown, hts⟩
  have hA : ∀ q : Nat, s0.heap.size ≤ q → (fun q : Nat => s0.heap.size ≤ q) q := fun _ h => h
  have hfr : ∀ q : Nat, (fun q : Nat => s0.heap.size ≤ q) q → s0.heap.size ≤ q := fun _ h => h
  have hbA : ¬ (fun q : Nat => s0.heap.size ≤ q) b := Nat.not_le.mpr hbl
  generalize (fun q : Nat => s0.heap.size ≤ q) = A0 at hA hfr hbA hD hS
  refine lv_aload_n hx hb dL_law_8 rfl (lv_at hl 0 rfl) ?_
  refine cl_VA (b := x0) (As := []) (rest := []) F hK hA hP hD hS (c_X3_undo hXI) (cwV 0 hts gL_law_X3_undo rfl rfl rfl (by decide +kernel) ⟨Nat.le_of_ble_eq_true rfl, Nat.le_of_ble_eq_true rfl⟩) rfl rfl rfl hl.1 rfl (Nat.le_of_ble_eq_true rfl) ⟨Nat.le_of_ble_eq_true rfl, Nat.le_of_ble_eq_true rfl⟩ dL_law_9 (fun r9 u9 H locs hw9 hP hD hS => ?_)
  try dsimp only at hw9 hP hD
  have hP : va_P D vwCl (XW aa x0 x1 x2 pp tt cI cG cC cR VV TV (fun _ => nI 0) (fun _ => 0) 0 0 0) H := hP
  have hD : va_D A0 (XW aa x0 x1 x2 pp tt cI cG cC cR VV TV (fun _ => nI 0) (fun _ => 0) 0 0 0) := hD
  obtain rfl : r9 = (-2) := hw9.1
  refine lv_bipush (v := (-2)) hx hb dL_law_12 (by decide) ?_
  refine lv_icmp_ne (tgt := 98) hx hb dL_law_14 (by decide) (fun c14 => ?_) (fun c14 => ?_)
  · skip
    exfalso
    exact absurd rfl c14
  · skip
    refine lv_aload_n hx hb dL_law_17 rfl (lv_at hl 0 rfl) ?_
    refine lv_iconst (v := (nI 0)) hx hb dL_law_18 (by decide) ?_
    refine cl_VA (b := x0) (As := [.int (nI 0)]) (rest := []) F hK hA hP hD hS (c_X3_count hXI) (cwV 1 hts gL_law_X3_count rfl rfl rfl (by decide +kernel) ⟨Nat.le_of_ble_eq_true rfl, Nat.le_of_ble_eq_true rfl⟩) rfl rfl rfl hl.1 rfl (Nat.le_of_ble_eq_true rfl) ⟨Nat.le_of_ble_eq_true rfl, Nat.le_of_ble_eq_true rfl⟩ dL_law_19 (fun r19 u19 H locs hw19 hP hD hS => ?_)
    try dsimp only at hw19 hP hD
    obtain rfl : r19 = (nI 320) := hw19.trans (by decide +kernel)
    refine lv_sipush (v := (nI 320)) hx hb dL_law_22 (by decide) ?_
    refine lv_icmp_ne (tgt := 98) hx hb dL_law_25 (by decide) (fun c25 => ?_) (fun c25 => ?_)
    · skip
      exfalso
      exact absurd c25 (by decide)
    · skip
      refine lv_aload_n hx hb dL_law_28 rfl (lv_at hl 0 rfl) ?_
      refine lv_bipush (v := (nI 8)) hx hb dL_law_29 (by decide) ?_
      refine cl_VA (b := x0) (As := [.int (nI 8)]) (rest := []) F hK hA hP hD hS (c_X3_count hXI) (cwV 1 hts gL_law_X3_count rfl rfl rfl (by decide +kernel) ⟨Nat.le_of_ble_eq_true rfl, Nat.le_of_ble_eq_true rfl⟩) rfl rfl rfl hl.1 rfl (Nat.le_of_ble_eq_true rfl) ⟨Nat.le_of_ble_eq_true rfl, Nat.le_of_ble_eq_true rfl⟩ dL_law_31 (fun r31 u31 H locs hw31 hP hD hS => ?_)
      try dsimp only at hw31 hP hD
      obtain rfl : r31 = (nI 1) := hw31.trans (by decide +kernel)
      refine lv_iconst (v := (nI 1)) hx hb dL_law_34 (by decide) ?_
      refine lv_icmp_ne (tgt := 98) hx hb dL_law_35 (by decide) (fun c35 => ?_) (fun c35 => ?_)
      · skip
        exfalso
        exact absurd c35 (by decide)
      · skip
        refine lv_aload_n hx hb dL_law_38 rfl (lv_at hl 0 rfl) ?_
        refine lv_bipush (v := (nI 9)) hx hb dL_law_39 (by decide) ?_
        refine cl_VA (b := x0) (As := [.int (nI 9)]) (rest := []) F hK hA hP hD hS (c_X3_count hXI) (cwV 1 hts gL_law_X3_count rfl rfl rfl (by decide +kernel) ⟨Nat.le_of_ble_eq_true rfl, Nat.le_of_ble_eq_true rfl⟩) rfl rfl rfl hl.1 rfl (Nat.le_of_ble_eq_true rfl) ⟨Nat.le_of_ble_eq_true rfl, Nat.le_of_ble_eq_true rfl⟩ dL_law_41 (fun r41 u41 H locs hw41 hP hD hS => ?_)
        try dsimp only at hw41 hP hD
        obtain rfl : r41 = (nI 320) := hw41.trans (by decide +kernel)
        refine lv_sipush (v := (nI 320)) hx hb dL_law_44 (by decide) ?_
        refine lv_icmp_ne (tgt := 98) hx hb dL_law_47 (by decide) (fun c47 => ?_) (fun c47 => ?_)
        · skip
          exfalso
          exact absurd c47 (by decide)
        · skip
          refine lv_aload_n hx hb dL_law_50 rfl (lv_at hl 0 rfl) ?_
          refine cl_VA (b := x0) (As := []) (rest := []) F hK hA hP hD hS (c_X3_takes hXI) (cwV 0 hts gL_law_X3_takes rfl rfl rfl (by decide +kernel) ⟨Nat.le_of_ble_eq_true rfl, Nat.le_of_ble_eq_true rfl⟩) rfl rfl rfl hl.1 rfl (Nat.le_of_ble_eq_true rfl) ⟨Nat.le_of_ble_eq_true rfl, Nat.le_of_ble_eq_true rfl⟩ dL_law_51 (fun r51 u51 H locs hw51 hP hD hS => ?_)
          try dsimp only at hw51 hP hD
          obtain rfl : r51 = (nI 320) := hw51.trans (by decide +kernel)
          refine lv_sipush (v := (nI 320)) hx hb dL_law_54 (by decide) ?_
          refine lv_icmp_ne (tgt := 98) hx hb dL_law_57 (by decide) (fun c57 => ?_) (fun c57 => ?_)
          · skip
            exfalso
            exact absurd c57 (by decide)
          · skip
            refine lv_aload_n hx hb dL_law_60 rfl (lv_at hl 0 rfl) ?_
            refine lv_iconst (v := (nI 0)) hx hb dL_law_61 (by decide) ?_
            refine cl_VA (b := x0) (As := [.int (nI 0)]) (rest := []) F hK hA hP hD hS (c_X3_next hXI) (cwV 1 hts gL_law_X3_next rfl rfl rfl (by decide +kernel) ⟨Nat.le_of_ble_eq_true rfl, Nat.le_of_ble_eq_true rfl⟩) rfl rfl rfl hl.1 rfl (Nat.le_of_ble_eq_true rfl) ⟨Nat.le_of_ble_eq_true rfl, Nat.le_of_ble_eq_true rfl⟩ dL_law_62 (fun r62 u62 H locs hw62 hP hD hS => ?_)
            try dsimp only at hw62 hP hD
            obtain rfl : r62 = (nI 0) := hw62.trans (by decide +kernel)
            refine lv_if_ne (tgt := 98) hx hb dL_law_65 (by decide) (fun c65 => ?_) (fun c65 => ?_)
            · skip
              exfalso
              exact absurd c65 (by decide)
            · skip
              refine lv_aload_n hx hb dL_law_68 rfl (lv_at hl 0 rfl) ?_
              refine lv_iconst (v := (nI 1)) hx hb dL_law_69 (by decide) ?_
              refine cl_VA (b := x0) (As := [.int (nI 1)]) (rest := []) F hK hA hP hD hS (c_X3_next hXI) (cwV 1 hts gL_law_X3_next rfl rfl rfl (by decide +kernel) ⟨Nat.le_of_ble_eq_true rfl, Nat.le_of_ble_eq_true rfl⟩) rfl rfl rfl hl.1 rfl (Nat.le_of_ble_eq_true rfl) ⟨Nat.le_of_ble_eq_true rfl, Nat.le_of_ble_eq_true rfl⟩ dL_law_70 (fun r70 u70 H locs hw70 hP hD hS => ?_)
              try dsimp only at hw70 hP hD
              obtain rfl : r70 = (nI 1) := hw70.trans (by decide +kernel)
              refine lv_iconst (v := (nI 1)) hx hb dL_law_73 (by decide) ?_
              refine lv_icmp_ne (tgt := 98) hx hb dL_law_74 (by decide) (fun c74 => ?_) (fun c74 => ?_)
              · skip
                exfalso
                exact absurd c74 (by decide)
              · skip
                refine lv_aload_n hx hb dL_law_77 rfl (lv_at hl 0 rfl) ?_
                refine cl_VA (b := x0) (As := []) (rest := []) F hK hA hP hD hS (cs_run hXI (by decide) (fun i hi => absurd hi (Nat.not_lt_zero i)) (by rw [rn_00]; exact nI_pos (by decide))) (cwV 0 hts gL_law_X3_run rfl rfl rfl (by decide +kernel) ⟨Nat.le_of_ble_eq_true rfl, Nat.le_of_ble_eq_true rfl⟩) rfl rfl rfl hl.1 rfl (Nat.le_of_ble_eq_true rfl) ⟨Nat.le_of_ble_eq_true rfl, Nat.le_of_ble_eq_true rfl⟩ dL_law_78 (fun r78 u78 H locs hw78 hP hD hS => ?_)
                try dsimp only at hw78 hP hD
                obtain rfl : r78 = (nI 0) := hw78.1.trans (congrArg Prod.fst rn_00)
                have hkk0 := kpK_5 (k := 0) (Nat.zero_le 5)
                have hX78 : XI ZF (psh ZF 0 ZF) (kpK 0) u78.2.1 u78.1 := by have q9 := hw78.2; rw [rn_00] at q9; exact q9
                refine lv_if_ne (tgt := 98) hx hb dL_law_81 (by decide) (fun c81 => ?_) (fun c81 => ?_)
                · skip
                  exfalso
                  exact absurd c81 (by decide)
                · skip
                  refine lv_aload_n hx hb dL_law_84 rfl (lv_at hl 0 rfl) ?_
                  refine cl_VA (b := x0) (As := []) (rest := []) F hK hA hP hD hS (c_X3_undo hX78) (cwV 0 hts gL_law_X3_undo rfl rfl rfl (by decide +kernel) ⟨Nat.le_of_ble_eq_true rfl, Nat.le_of_ble_eq_true rfl⟩) rfl rfl rfl hl.1 rfl (Nat.le_of_ble_eq_true rfl) ⟨Nat.le_of_ble_eq_true rfl, Nat.le_of_ble_eq_true rfl⟩ dL_law_85 (fun r85 u85 H locs hw85 hP hD hS => ?_)
                  try dsimp only at hw85 hP hD
                  have hX85 : XI ZF (psh ZF 0 ZF) (kpK 0 - 1) u78.2.1 (rlV u78.1 u78.2.1 (kpK 0)) := XI_cong (fun j hj => un_back (Nat.zero_le 5) hj) hw85.2
                  obtain ⟨k1, hk1⟩ : ∃ z9, z9 = kpK 0 - 1 := ⟨_, rfl⟩
                  obtain ⟨p1, hp1⟩ : ∃ z9, z9 = psh ZF 0 ZF := ⟨_, rfl⟩
                  rw [← hk1] at hP hD hX85
                  rw [← hp1] at hX85
                  obtain rfl : r85 = (nI (kpK 0 - 1)) := hw85.1.trans (unA_k (Nat.zero_le 5))
                  refine lv_if_ne (tgt := 98) hx hb dL_law_88 (by decide) (fun c88 => ?_) (fun c88 => ?_)
                  · skip
                    replace c88 : ¬ (kpK 0 - 1) = 0 := by rw [show (0 : Int32) = nI 0 from rfl, nI_eq (by omega) (by omega)] at c88; try exact c88
                    exfalso
                    exact c88 rfl
                  · skip
                    replace c88 : (kpK 0 - 1) = 0 := by rw [show (0 : Int32) = nI 0 from rfl, nI_eq (by omega) (by omega)] at c88; try exact c88
                    refine lv_aload_n hx hb dL_law_91 rfl (lv_at hl 0 rfl) ?_
                    refine cl_SA (As := [.ref x0]) (rest := []) F hK hA hP hD hS (c_L_fails hX85 (by decide)) (va_cwS 1 hts gL_law_L_fails rfl rfl rfl (by decide +kernel) ⟨Nat.le_of_ble_eq_true rfl, Nat.le_of_ble_eq_true rfl⟩) rfl hl.1 rfl (Nat.le_of_ble_eq_true rfl) ⟨Nat.le_of_ble_eq_true rfl, Nat.le_of_ble_eq_true rfl⟩ dL_law_92 (fun r92 u92 H locs hw92 hP hD hS => ?_)
                    try dsimp only at hw92 hP hD
                    obtain rfl : r92 = (nI 1) := hw92.1
                    have hX92 := hw92.2
                    refine lv_if_ne (tgt := 100) hx hb dL_law_95 (by decide) (fun c95 => ?_) (fun c95 => ?_)
                    · skip
                      refine lv_iconst (v := (nI 0)) hx hb dL_law_100 (by decide) ?_
                      refine lv_istore_n (lv' := [(2, .int (nI 0)), (1, .ref x0), (0, .ref b)]) hx hb dL_law_101 rfl hl (by decide) rfl (fun ls hl => ?_)
                      have LP102 : ∀ (nn : Nat) (VV : Nat → Nat → Nat → Int32) (TV : Nat → Nat → Int32) (now : Nat → Int32) (past : Nat → Int32) (k : Nat) (on : Nat) (i : Nat) (H : Heap) (locs : List Loc) (ls : Array Slot), (i ≤ 24) → (XI now past k on VV) → (K3 now) → 24 - i < nn → va_P D vwCl (XW aa x0 x1 x2 pp tt cI cG cC cR VV TV (fun _ => nI 0) u78.2.2 0 on k) H → va_D A0 (XW aa x0 x1 x2 pp tt cI cG cC cR VV TV (fun _ => nI 0) u78.2.2 0 on k) → va_S A0 s0.heap H locs → lv_has ls 8 [(2, .int (nI i)), (1, .ref x0), (0, .ref b)] → W P0 l e0 room_1 s0 m0 #[Value.ref b] b0 t0 c0 H locs 69 621 (lw_Z b0 #[Value.ref b] s0) (F0 m0 102 ls []) := by
                        intro nn
                        induction nn with
                        | zero => intro VV TV now past k on i H locs ls hi hXI hK3 hmu; exact absurd hmu (Nat.not_lt_zero _)
                        | succ nn ih102 =>
                          intro VV TV now past k on i H locs ls hi hXI hK3 hmu102 hP hD hS hl
                          have hk5 : k ≤ 5 := hXI.2.1
                          refine lv_iload_n hx hb dL_law_102 rfl (lv_at hl 0 rfl) ?_
                          refine lv_bipush (v := (nI 24)) hx hb dL_law_103 (by decide) ?_
                          refine lv_icmp_ge (tgt := 241) hx hb dL_law_105 (by decide) (fun c105 => ?_) (fun c105 => ?_)
                          · skip
                            replace c105 : 24 ≤ i := by rw [nI_leI (by omega) (by omega)] at c105; try exact c105
                            obtain rfl : i = 24 := by omega
                            refine lv_aload_n hx hb dL_law_241 rfl (lv_at hl 1 rfl) ?_
                            refine cl_SA (As := [.ref x0]) (rest := []) F hK hA hP hD hS (c_L_words hXI) (va_cwS 1 hts gL_law_L_words rfl rfl rfl (by decide +kernel) ⟨Nat.le_of_ble_eq_true rfl, Nat.le_of_ble_eq_true rfl⟩) rfl hl.1 rfl (Nat.le_of_ble_eq_true rfl) ⟨Nat.le_of_ble_eq_true rfl, Nat.le_of_ble_eq_true rfl⟩ dL_law_242 (fun r242 u242 H locs hw242 hP hD hS => ?_)
                            try dsimp only at hw242 hP hD
                            obtain rfl : r242 = (nI 1) := hw242
                            refine lv_if_eq (tgt := 282) hx hb dL_law_245 (by decide) (fun c245 => ?_) (fun c245 => ?_)
                            · skip
                              exfalso
                              exact absurd c245 (by decide)
                            · skip
                              refine lv_aload_n hx hb dL_law_248 rfl (lv_at hl 1 rfl) ?_
                              refine cl_SA (As := [.ref x0]) (rest := []) F hK hA hP hD hS (c_L_blocks hXI hK3) (va_cwS 1 hts gL_law_L_blocks rfl rfl rfl (by decide +kernel) ⟨Nat.le_of_ble_eq_true rfl, Nat.le_of_ble_eq_true rfl⟩) rfl hl.1 rfl (Nat.le_of_ble_eq_true rfl) ⟨Nat.le_of_ble_eq_true rfl, Nat.le_of_ble_eq_true rfl⟩ dL_law_249 (fun r249 u249 H locs hw249 hP hD hS => ?_)
                              try dsimp only at hw249 hP hD
                              obtain rfl : r249 = (nI 1) := hw249
                              refine lv_if_eq (tgt := 282) hx hb dL_law_252 (by decide) (fun c252 => ?_) (fun c252 => ?_)
                              · skip
                                exfalso
                                exact absurd c252 (by decide)
                              · skip
                                refine lv_aload_n hx hb dL_law_255 rfl (lv_at hl 1 rfl) ?_
                                refine lv_aload_n hx hb dL_law_256 rfl (lv_at hl 2 rfl) ?_
                                refine lv_bipush (v := (nI 48)) hx hb dL_law_257 (by decide) ?_
                                refine cl_SX (As := [.ref b, .int (nI 48)]) (rest := [.ref x0]) F hA hP hX hbl hbA hS (c_L_cell (by omega) (by omega)) (va_cwS 2 hts gL_law_L_cell rfl rfl rfl (by decide +kernel) ⟨Nat.le_of_ble_eq_true rfl, Nat.le_of_ble_eq_true rfl⟩) rfl hl.1 rfl (Nat.le_of_ble_eq_true rfl) ⟨Nat.le_of_ble_eq_true rfl, Nat.le_of_ble_eq_true rfl⟩ dL_law_259 (fun r259 H locs hP hS => ?_)
                                refine cl_SA (As := [.ref x0, .int r259]) (rest := []) F hK hA hP hD hS (c_L_runs hXI) (va_cwS 2 hts gL_law_L_runs rfl rfl rfl (by decide +kernel) ⟨Nat.le_of_ble_eq_true rfl, Nat.le_of_ble_eq_true rfl⟩) rfl hl.1 rfl (Nat.le_of_ble_eq_true rfl) ⟨Nat.le_of_ble_eq_true rfl, Nat.le_of_ble_eq_true rfl⟩ dL_law_262 (fun r262 u262 H locs hw262 hP hD hS => ?_)
                                try dsimp only at hw262 hP hD
                                obtain rfl : r262 = (nI 1) := hw262
                                refine lv_if_eq (tgt := 282) hx hb dL_law_265 (by decide) (fun c265 => ?_) (fun c265 => ?_)
                                · skip
                                  exfalso
                                  exact absurd c265 (by decide)
                                · skip
                                  refine lv_aload_n hx hb dL_law_268 rfl (lv_at hl 1 rfl) ?_
                                  refine cl_SA (As := [.ref x0]) (rest := []) F hK hA hP hD hS (c_L_takes hXI (by decide)) (va_cwS 1 hts gL_law_L_takes rfl rfl rfl (by decide +kernel) ⟨Nat.le_of_ble_eq_true rfl, Nat.le_of_ble_eq_true rfl⟩) rfl hl.1 rfl (Nat.le_of_ble_eq_true rfl) ⟨Nat.le_of_ble_eq_true rfl, Nat.le_of_ble_eq_true rfl⟩ dL_law_269 (fun r269 u269 H locs hw269 hP hD hS => ?_)
                                  try dsimp only at hw269 hP hD
                                  obtain rfl : r269 = (nI 1) := hw269.1
                                  have hX269 := hw269.2
                                  refine lv_if_eq (tgt := 282) hx hb dL_law_272 (by decide) (fun c272 => ?_) (fun c272 => ?_)
                                  · skip
                                    exfalso
                                    exact absurd c272 (by decide)
                                  · skip
                                    refine lv_aload_n hx hb dL_law_275 rfl (lv_at hl 1 rfl) ?_
                                    refine cl_SA (As := [.ref x0]) (rest := []) F hK hA hP hD hS (c_L_fails hX269 (by decide)) (va_cwS 1 hts gL_law_L_fails rfl rfl rfl (by decide +kernel) ⟨Nat.le_of_ble_eq_true rfl, Nat.le_of_ble_eq_true rfl⟩) rfl hl.1 rfl (Nat.le_of_ble_eq_true rfl) ⟨Nat.le_of_ble_eq_true rfl, Nat.le_of_ble_eq_true rfl⟩ dL_law_276 (fun r276 u276 H locs hw276 hP hD hS => ?_)
                                    try dsimp only at hw276 hP hD
                                    obtain rfl : r276 = (nI 1) := hw276.1
                                    have hX276 := hw276.2
                                    refine lv_if_ne (tgt := 284) hx hb dL_law_279 (by decide) (fun c279 => ?_) (fun c279 => ?_)
                                    · skip
                                      refine lv_aload_n hx hb dL_law_284 rfl (lv_at hl 1 rfl) ?_
                                      refine lv_iconst (v := (nI 0)) hx hb dL_law_285 (by decide) ?_
                                      refine cl_VA (b := x0) (As := [.int (nI 0)]) (rest := []) F hK hA hP hD hS (c_X3_audit hX276) (cwV 1 hts gL_law_X3_audit rfl rfl rfl (by decide +kernel) ⟨Nat.le_of_ble_eq_true rfl, Nat.le_of_ble_eq_true rfl⟩) rfl rfl rfl hl.1 rfl (Nat.le_of_ble_eq_true rfl) ⟨Nat.le_of_ble_eq_true rfl, Nat.le_of_ble_eq_true rfl⟩ dL_law_286 (fun r286 u286 H locs hw286 hP hD hS => ?_)
                                      try dsimp only at hw286 hP hD
                                      obtain rfl : r286 = (nI (fb_ct (wr now) 10)) := by rw [hw286, adA_j (by decide)]; rfl
                                      refine lv_istore_n (lv' := [(2, .int (nI (fb_ct (wr now) 10))), (1, .ref x0), (0, .ref b)]) hx hb dL_law_289 rfl hl (by decide) rfl (fun ls hl => ?_)
                                      refine lv_aload_n hx hb dL_law_290 rfl (lv_at hl 1 rfl) ?_
                                      have hrp : rpN now 10 ≤ 10 := fb_ct_le _ _
                                      have hwr9 : fb_ct (wr now) 10 ≤ 10 := fb_ct_le _ _
                                      refine cl_VA (b := x0) (As := []) (rest := []) F hK hA hP hD hS (cs_repair hX276 (nI_pos (by omega))) (cwV 0 hts gL_law_X3_repair rfl rfl rfl (by decide +kernel) ⟨Nat.le_of_ble_eq_true rfl, Nat.le_of_ble_eq_true rfl⟩) rfl rfl rfl hl.1 rfl (Nat.le_of_ble_eq_true rfl) ⟨Nat.le_of_ble_eq_true rfl, Nat.le_of_ble_eq_true rfl⟩ dL_law_291 (fun r291 u291 H locs hw291 hP hD hS => ?_)
                                      try dsimp only at hw291 hP hD
                                      obtain rfl : r291 = (nI (rpN now 10)) := hw291.1
                                      have hX291 := hw291.2
                                      have hI9 : Inv (rpF now 10) := Inv_rp hX276.2.2.2.1
                                      have hto0 := tot_le3 (rpF now 10) (nI 0)
                                      have hto2 := tot_le3 (rpF now 10) (nI 2)
                                      have hfu9 : fuN (rpF now 10) 10 ≤ 10 := fb_ct_le _ _
                                      refine lv_iload_n hx hb dL_law_294 rfl (lv_at hl 0 rfl) ?_
                                      refine lv_icmp_ne (tgt := 367) hx hb dL_law_295 (by decide) (fun c295 => ?_) (fun c295 => ?_)
                                      · skip
                                        replace c295 : ¬ (rpN now 10) = (fb_ct (wr now) 10) := by rw [nI_eq (by omega) (by omega)] at c295; try exact c295
                                        exfalso
                                        exact c295 rfl
                                      · skip
                                        replace c295 : (rpN now 10) = (fb_ct (wr now) 10) := by rw [nI_eq (by omega) (by omega)] at c295; try exact c295
                                        refine lv_aload_n hx hb dL_law_298 rfl (lv_at hl 1 rfl) ?_
                                        refine lv_iconst (v := (nI 0)) hx hb dL_law_299 (by decide) ?_
                                        refine cl_VA (b := x0) (As := [.int (nI 0)]) (rest := []) F hK hA hP hD hS (c_X3_audit hX291) (cwV 1 hts gL_law_X3_audit rfl rfl rfl (by decide +kernel) ⟨Nat.le_of_ble_eq_true rfl, Nat.le_of_ble_eq_true rfl⟩) rfl rfl rfl hl.1 rfl (Nat.le_of_ble_eq_true rfl) ⟨Nat.le_of_ble_eq_true rfl, Nat.le_of_ble_eq_true rfl⟩ dL_law_300 (fun r300 u300 H locs hw300 hP hD hS => ?_)
                                        try dsimp only at hw300 hP hD
                                        obtain rfl : r300 = (nI 0) := by rw [hw300, adA_j (by decide)]; exact congrArg nI (rp_a0 now)
                                        refine lv_if_ne (tgt := 367) hx hb dL_law_303 (by decide) (fun c303 => ?_) (fun c303 => ?_)
                                        · skip
                                          exfalso
                                          exact absurd c303 (by decide)
                                        · skip
                                          refine lv_aload_n hx hb dL_law_306 rfl (lv_at hl 1 rfl) ?_
                                          refine lv_iconst (v := (nI 1)) hx hb dL_law_307 (by decide) ?_
                                          refine cl_VA (b := x0) (As := [.int (nI 1)]) (rest := []) F hK hA hP hD hS (c_X3_audit hX291) (cwV 1 hts gL_law_X3_audit rfl rfl rfl (by decide +kernel) ⟨Nat.le_of_ble_eq_true rfl, Nat.le_of_ble_eq_true rfl⟩) rfl rfl rfl hl.1 rfl (Nat.le_of_ble_eq_true rfl) ⟨Nat.le_of_ble_eq_true rfl, Nat.le_of_ble_eq_true rfl⟩ dL_law_308 (fun r308 u308 H locs hw308 hP hD hS => ?_)
                                          try dsimp only at hw308 hP hD
                                          obtain rfl : r308 = (-9) := by rw [hw308, adA_j (by decide)]; exact congrArg oI (rp_a1 now)
                                          refine lv_bipush (v := (-9)) hx hb dL_law_311 (by decide) ?_
                                          refine lv_icmp_ne (tgt := 367) hx hb dL_law_313 (by decide) (fun c313 => ?_) (fun c313 => ?_)
                                          · skip
                                            exfalso
                                            exact absurd rfl c313
                                          · skip
                                            refine lv_aload_n hx hb dL_law_316 rfl (lv_at hl 1 rfl) ?_
                                            refine lv_bipush (v := (nI 6)) hx hb dL_law_317 (by decide) ?_
                                            refine cl_VA (b := x0) (As := [.int (nI 6)]) (rest := []) F hK hA hP hD hS (c_X3_count hX291) (cwV 1 hts gL_law_X3_count rfl rfl rfl (by decide +kernel) ⟨Nat.le_of_ble_eq_true rfl, Nat.le_of_ble_eq_true rfl⟩) rfl rfl rfl hl.1 rfl (Nat.le_of_ble_eq_true rfl) ⟨Nat.le_of_ble_eq_true rfl, Nat.le_of_ble_eq_true rfl⟩ dL_law_319 (fun r319 u319 H locs hw319 hP hD hS => ?_)
                                            try dsimp only at hw319 hP hD
                                            obtain rfl : r319 = (nI (fuN (rpF now 10) 10)) := by rw [hw319, ctA_j (by decide)]; exact congrArg nI (rp_67 now)
                                            refine lv_aload_n hx hb dL_law_322 rfl (lv_at hl 1 rfl) ?_
                                            refine lv_bipush (v := (nI 7)) hx hb dL_law_323 (by decide) ?_
                                            refine cl_VA (b := x0) (As := [.int (nI 7)]) (rest := [.int (nI (fuN (rpF now 10) 10))]) F hK hA hP hD hS (c_X3_count hX291) (cwV 1 hts gL_law_X3_count rfl rfl rfl (by decide +kernel) ⟨Nat.le_of_ble_eq_true rfl, Nat.le_of_ble_eq_true rfl⟩) rfl rfl rfl hl.1 rfl (Nat.le_of_ble_eq_true rfl) ⟨Nat.le_of_ble_eq_true rfl, Nat.le_of_ble_eq_true rfl⟩ dL_law_325 (fun r325 u325 H locs hw325 hP hD hS => ?_)
                                            try dsimp only at hw325 hP hD
                                            obtain rfl : r325 = (nI (fuN (rpF now 10) 10)) := by rw [hw325, ctA_j (by decide)]; rfl
                                            refine lv_icmp_ne (tgt := 367) hx hb dL_law_328 (by decide) (fun c328 => ?_) (fun c328 => ?_)
                                            · skip
                                              replace c328 : ¬ (fuN (rpF now 10) 10) = (fuN (rpF now 10) 10) := by rw [nI_eq (by omega) (by omega)] at c328; try exact c328
                                              exfalso
                                              exact c328 rfl
                                            · skip
                                              replace c328 : (fuN (rpF now 10) 10) = (fuN (rpF now 10) 10) := by rw [nI_eq (by omega) (by omega)] at c328; try exact c328
                                              refine lv_aload_n hx hb dL_law_331 rfl (lv_at hl 1 rfl) ?_
                                              refine cl_SA (As := [.ref x0]) (rest := []) F hK hA hP hD hS (c_L_words hX291) (va_cwS 1 hts gL_law_L_words rfl rfl rfl (by decide +kernel) ⟨Nat.le_of_ble_eq_true rfl, Nat.le_of_ble_eq_true rfl⟩) rfl hl.1 rfl (Nat.le_of_ble_eq_true rfl) ⟨Nat.le_of_ble_eq_true rfl, Nat.le_of_ble_eq_true rfl⟩ dL_law_332 (fun r332 u332 H locs hw332 hP hD hS => ?_)
                                              try dsimp only at hw332 hP hD
                                              obtain rfl : r332 = (nI 1) := hw332
                                              refine lv_if_eq (tgt := 367) hx hb dL_law_335 (by decide) (fun c335 => ?_) (fun c335 => ?_)
                                              · skip
                                                exfalso
                                                exact absurd c335 (by decide)
                                              · skip
                                                refine lv_aload_n hx hb dL_law_338 rfl (lv_at hl 1 rfl) ?_
                                                refine cl_VA (b := x0) (As := []) (rest := []) F hK hA hP hD hS (c_X3_takes hX291) (cwV 0 hts gL_law_X3_takes rfl rfl rfl (by decide +kernel) ⟨Nat.le_of_ble_eq_true rfl, Nat.le_of_ble_eq_true rfl⟩) rfl rfl rfl hl.1 rfl (Nat.le_of_ble_eq_true rfl) ⟨Nat.le_of_ble_eq_true rfl, Nat.le_of_ble_eq_true rfl⟩ dL_law_339 (fun r339 u339 H locs hw339 hP hD hS => ?_)
                                                try dsimp only at hw339 hP hD
                                                obtain rfl : r339 = (nI ((tot (rpF now 10) (nI 0)) + (tot (rpF now 10) (nI 2)))) := hw339.trans (congrArg nI (rp_reach now))
                                                refine lv_aload_n hx hb dL_law_342 rfl (lv_at hl 1 rfl) ?_
                                                refine lv_iconst (v := (nI 0)) hx hb dL_law_343 (by decide) ?_
                                                refine cl_VA (b := x0) (As := [.int (nI 0)]) (rest := [.int (nI ((tot (rpF now 10) (nI 0)) + (tot (rpF now 10) (nI 2))))]) F hK hA hP hD hS (c_X3_count hX291) (cwV 1 hts gL_law_X3_count rfl rfl rfl (by decide +kernel) ⟨Nat.le_of_ble_eq_true rfl, Nat.le_of_ble_eq_true rfl⟩) rfl rfl rfl hl.1 rfl (Nat.le_of_ble_eq_true rfl) ⟨Nat.le_of_ble_eq_true rfl, Nat.le_of_ble_eq_true rfl⟩ dL_law_344 (fun r344 u344 H locs hw344 hP hD hS => ?_)
                                                try dsimp only at hw344 hP hD
                                                obtain rfl : r344 = (nI (tot (rpF now 10) (nI 0))) := by rw [hw344, ctA_j (by decide)]; rfl
                                                refine lv_aload_n hx hb dL_law_347 rfl (lv_at hl 1 rfl) ?_
                                                refine lv_iconst (v := (nI 2)) hx hb dL_law_348 (by decide) ?_
                                                refine cl_VA (b := x0) (As := [.int (nI 2)]) (rest := [.int (nI (tot (rpF now 10) (nI 0))), .int (nI ((tot (rpF now 10) (nI 0)) + (tot (rpF now 10) (nI 2))))]) F hK hA hP hD hS (c_X3_count hX291) (cwV 1 hts gL_law_X3_count rfl rfl rfl (by decide +kernel) ⟨Nat.le_of_ble_eq_true rfl, Nat.le_of_ble_eq_true rfl⟩) rfl rfl rfl hl.1 rfl (Nat.le_of_ble_eq_true rfl) ⟨Nat.le_of_ble_eq_true rfl, Nat.le_of_ble_eq_true rfl⟩ dL_law_349 (fun r349 u349 H locs hw349 hP hD hS => ?_)
                                                try dsimp only at hw349 hP hD
                                                obtain rfl : r349 = (nI (tot (rpF now 10) (nI 2))) := by rw [hw349, ctA_j (by decide)]; rfl
                                                refine lv_iadd hx hb dL_law_352 ?_
                                                refine n_as (x' := nI ((tot (rpF now 10) (nI 0)) + (tot (rpF now 10) (nI 2)))) (nI_add _ _) ?_
                                                refine lv_icmp_ne (tgt := 367) hx hb dL_law_353 (by decide) (fun c353 => ?_) (fun c353 => ?_)
                                                · skip
                                                  replace c353 : ¬ ((tot (rpF now 10) (nI 0)) + (tot (rpF now 10) (nI 2))) = ((tot (rpF now 10) (nI 0)) + (tot (rpF now 10) (nI 2))) := by rw [nI_eq (by omega) (by omega)] at c353; try exact c353
                                                  exfalso
                                                  exact c353 rfl
                                                · skip
                                                  replace c353 : ((tot (rpF now 10) (nI 0)) + (tot (rpF now 10) (nI 2))) = ((tot (rpF now 10) (nI 0)) + (tot (rpF now 10) (nI 2))) := by rw [nI_eq (by omega) (by omega)] at c353; try exact c353
                                                  refine lv_aload_n hx hb dL_law_356 rfl (lv_at hl 1 rfl) ?_
                                                  refine cl_SA (As := [.ref x0]) (rest := []) F hK hA hP hD hS (c_L_takes hX291 (by decide)) (va_cwS 1 hts gL_law_L_takes rfl rfl rfl (by decide +kernel) ⟨Nat.le_of_ble_eq_true rfl, Nat.le_of_ble_eq_true rfl⟩) rfl hl.1 rfl (Nat.le_of_ble_eq_true rfl) ⟨Nat.le_of_ble_eq_true rfl, Nat.le_of_ble_eq_true rfl⟩ dL_law_357 (fun r357 u357 H locs hw357 hP hD hS => ?_)
                                                  try dsimp only at hw357 hP hD
                                                  obtain rfl : r357 = (nI 1) := hw357.1
                                                  have hX357 := hw357.2
                                                  refine lv_if_eq (tgt := 367) hx hb dL_law_360 (by decide) (fun c360 => ?_) (fun c360 => ?_)
                                                  · skip
                                                    exfalso
                                                    exact absurd c360 (by decide)
                                                  · skip
                                                    refine lv_iconst (v := (nI 1)) hx hb dL_law_363 (by decide) ?_
                                                    refine lv_goto (tgt := 368) hx hb dL_law_364 (by decide) ?_
                                                    refine va_forget (fun q hq => hfr _ (hS.2.2 q hq)) ?_
                                                    refine W.widen (k := 600000) (n := 7302250) (by decide) (by decide) ?_
                                                    exact lw_ret hx hb hr hlocks dL_law_368
                                    · skip
                                      exfalso
                                      exact absurd c279 (by decide)
                          · skip
                            replace c105 : ¬ (24 ≤ i) := by rw [nI_leI (by omega) (by omega)] at c105; try exact c105
                            refine lv_aload_n hx hb dL_law_108 rfl (lv_at hl 2 rfl) ?_
                            refine lv_iload_n hx hb dL_law_109 rfl (lv_at hl 0 rfl) ?_
                            refine cl_SX (As := [.ref b, .int (nI i)]) (rest := []) F hA hP hX hbl hbA hS (c_L_cell (by omega) (by omega)) (va_cwS 2 hts gL_law_L_cell rfl rfl rfl (by decide +kernel) ⟨Nat.le_of_ble_eq_true rfl, Nat.le_of_ble_eq_true rfl⟩) rfl hl.1 rfl (Nat.le_of_ble_eq_true rfl) ⟨Nat.le_of_ble_eq_true rfl, Nat.le_of_ble_eq_true rfl⟩ dL_law_110 (fun r110 H locs hP hS => ?_)
                            refine lv_istore_n (lv' := [(3, .int r110), (2, .int (nI i)), (1, .ref x0), (0, .ref b)]) hx hb dL_law_113 rfl hl (by decide) rfl (fun ls hl => ?_)
                            refine lv_aload_n hx hb dL_law_114 rfl (lv_at hl 2 rfl) ?_
                            refine lv_bipush (v := (nI 10)) hx hb dL_law_115 (by decide) ?_
                            refine cl_VA (b := x0) (As := [.int (nI 10)]) (rest := []) F hK hA hP hD hS (c_X3_count hXI) (cwV 1 hts gL_law_X3_count rfl rfl rfl (by decide +kernel) ⟨Nat.le_of_ble_eq_true rfl, Nat.le_of_ble_eq_true rfl⟩) rfl rfl rfl hl.1 rfl (Nat.le_of_ble_eq_true rfl) ⟨Nat.le_of_ble_eq_true rfl, Nat.le_of_ble_eq_true rfl⟩ dL_law_117 (fun r117 u117 H locs hw117 hP hD hS => ?_)
                            try dsimp only at hw117 hP hD
                            obtain rfl : r117 = (nI k) := by rw [hw117, ctA_j (by decide)]; rfl
                            refine lv_istore (lv' := [(4, .int (nI k)), (3, .int r110), (2, .int (nI i)), (1, .ref x0), (0, .ref b)]) hx hb dL_law_120 hl (by decide) rfl (fun ls hl => ?_)
                            refine lv_aload_n hx hb dL_law_122 rfl (lv_at hl 3 rfl) ?_
                            refine cl_SL (As := [.ref x0]) (rest := []) F hK hA hP hD hS (c_L_mark hXI) (va_cwS 1 hts gL_law_L_mark rfl rfl rfl (by decide +kernel) ⟨Nat.le_of_ble_eq_true rfl, Nat.le_of_ble_eq_true rfl⟩) rfl hl.1 rfl (Nat.le_of_ble_eq_true rfl) ⟨Nat.le_of_ble_eq_true rfl, Nat.le_of_ble_eq_true rfl⟩ dL_law_123 (fun r123 u123 H locs hw123 hP hD hS => ?_)
                            try dsimp only at hw123 hP hD
                            obtain rfl : r123 = (mkF now) := hw123
                            refine lv_lstore (lv' := [(5, .long (mkF now)), (4, .int (nI k)), (3, .int r110), (2, .int (nI i)), (1, .ref x0), (0, .ref b)]) hx hb dL_law_126 hl (by decide) rfl (fun ls hl => ?_)
                            refine lv_aload_n hx hb dL_law_128 rfl (lv_at hl 4 rfl) ?_
                            refine lv_iload_n hx hb dL_law_129 rfl (lv_at hl 2 rfl) ?_
                            refine lv_aload_n hx hb dL_law_130 rfl (lv_at hl 5 rfl) ?_
                            refine lv_bipush (v := (nI 24)) hx hb dL_law_131 (by decide) ?_
                            refine lv_iload_n hx hb dL_law_133 rfl (lv_at hl 3 rfl) ?_
                            refine lv_iadd hx hb dL_law_134 ?_
                            refine n_as (x' := nI (24 + i)) (nI_add _ _) ?_
                            refine cl_SX (As := [.ref b, .int (nI (24 + i))]) (rest := [.int r110, .ref x0]) F hA hP hX hbl hbA hS (c_L_cell (by omega) (by omega)) (va_cwS 2 hts gL_law_L_cell rfl rfl rfl (by decide +kernel) ⟨Nat.le_of_ble_eq_true rfl, Nat.le_of_ble_eq_true rfl⟩) rfl hl.1 rfl (Nat.le_of_ble_eq_true rfl) ⟨Nat.le_of_ble_eq_true rfl, Nat.le_of_ble_eq_true rfl⟩ dL_law_135 (fun r135 H locs hP hS => ?_)
                            refine cl_SA (As := [.ref x0, .int r110, .int r135]) (rest := []) F hK hA hP hD hS (c_L_act hXI hK3) (va_cwS 3 hts gL_law_L_act rfl rfl rfl (by decide +kernel) ⟨Nat.le_of_ble_eq_true rfl, Nat.le_of_ble_eq_true rfl⟩) rfl hl.1 rfl (Nat.le_of_ble_eq_true rfl) ⟨Nat.le_of_ble_eq_true rfl, Nat.le_of_ble_eq_true rfl⟩ dL_law_138 (fun r138 u138 H locs hw138 hP hD hS => ?_)
                            try dsimp only at hw138 hP hD
                            obtain rfl : r138 = u138.2.2.1 := hw138.1
                            have hK9 := hw138.2.1
                            have hX9 := hw138.2.2
                            refine lv_istore (lv' := [(7, .int u138.2.2.1), (5, .long (mkF now)), (4, .int (nI k)), (3, .int r110), (2, .int (nI i)), (1, .ref x0), (0, .ref b)]) hx hb dL_law_141 hl (by decide) rfl (fun ls hl => ?_)
                            refine lv_iload hx hb dL_law_143 (lv_at hl 0 rfl) ?_
                            refine lv_if_ge (tgt := 172) hx hb dL_law_145 (by decide) (fun c145 => ?_) (fun c145 => ?_)
                            · skip
                              have hpos : ¬ u138.2.2.1 < 0 := Int32.not_lt.mpr c145
                              have e1 : fnN now u138.2.2.2 u138.2.2.1 = u138.2.2.2 := if_neg hpos
                              have e2 : fnP past k now u138.2.2.1 = psh past k now := if_neg hpos
                              have e3 : fnK k u138.2.2.1 = kpK k := kp_fn hk5 hpos
                              rw [e1, e2, e3] at hX9
                              rw [e3] at hP hD
                              have hkk := kpK_5 hk5
                              refine lv_aload_n hx hb dL_law_172 rfl (lv_at hl 5 rfl) ?_
                              refine lv_bipush (v := (nI 10)) hx hb dL_law_173 (by decide) ?_
                              refine cl_VA (b := x0) (As := [.int (nI 10)]) (rest := []) F hK hA hP hD hS (c_X3_count hX9) (cwV 1 hts gL_law_X3_count rfl rfl rfl (by decide +kernel) ⟨Nat.le_of_ble_eq_true rfl, Nat.le_of_ble_eq_true rfl⟩) rfl rfl rfl hl.1 rfl (Nat.le_of_ble_eq_true rfl) ⟨Nat.le_of_ble_eq_true rfl, Nat.le_of_ble_eq_true rfl⟩ dL_law_175 (fun r175 u175 H locs hw175 hP hD hS => ?_)
                              try dsimp only at hw175 hP hD
                              obtain rfl : r175 = (nI (kpK k)) := by rw [hw175, ctA_j (by decide)]; rfl
                              refine lv_iload hx hb dL_law_178 (lv_at hl 2 rfl) ?_
                              refine lv_iconst (v := (nI 5)) hx hb dL_law_180 (by decide) ?_
                              refine lv_icmp_ge (tgt := 191) hx hb dL_law_181 (by decide) (fun c181 => ?_) (fun c181 => ?_)
                              · skip
                                replace c181 : 5 ≤ k := by rw [nI_leI (by omega) (by omega)] at c181; try exact c181
                                have hkk1 : kpK k = 5 := by unfold kpK; rw [if_neg (by omega)]; omega
                                refine lv_iconst (v := (nI 5)) hx hb dL_law_191 (by decide) ?_
                                refine lv_icmp_ne (tgt := 233) hx hb dL_law_192 (by decide) (fun c192 => ?_) (fun c192 => ?_)
                                · skip
                                  replace c192 : ¬ (kpK k) = 5 := by rw [nI_eq (by omega) (by omega)] at c192; try exact c192
                                  exfalso
                                  omega
                                · skip
                                  replace c192 : (kpK k) = 5 := by rw [nI_eq (by omega) (by omega)] at c192; try exact c192
                                  refine lv_iload_n hx hb dL_law_195 rfl (lv_at hl 3 rfl) ?_
                                  refine lv_bipush (v := (nI 24)) hx hb dL_law_196 (by decide) ?_
                                  refine lv_ishr hx hb dL_law_198 ?_
                                  refine lv_iconst (v := (nI 3)) hx hb dL_law_199 (by decide) ?_
                                  refine lv_iand hx hb dL_law_200 ?_
                                  refine lv_if_ne (tgt := 235) hx hb dL_law_201 (by decide) (fun c201 => ?_) (fun c201 => ?_)
                                  · skip
                                    replace c201 : ¬ ((r110 >>> ((nI 24) &&& 31)) &&& (nI 3)) = nI 0 := c201
                                    refine lv_iinc (v := (nI (i + 1))) (lv' := [(2, .int (nI (i + 1))), (7, .int u138.2.2.1), (5, .long (mkF now)), (4, .int (nI k)), (3, .int r110), (1, .ref x0), (0, .ref b)]) hx hb dL_law_235 hl (k := 4) rfl (n_inc1 _) (by decide) rfl (fun ls hl => ?_)
                                    refine lv_goto (tgt := 102) hx hb dL_law_238 (by decide) ?_
                                    exact ih102 u138.1 TV u138.2.2.2 (psh past k now) (kpK k) u138.2.1 (i + 1) _ _ _ (by omega) (hX9) (hK9) (by omega) hP hD hS (lv_sub hl [0, 5, 6] rfl)
                                  · skip
                                    replace c201 : ((r110 >>> ((nI 24) &&& 31)) &&& (nI 3)) = nI 0 := c201
                                    refine lv_aload_n hx hb dL_law_204 rfl (lv_at hl 5 rfl) ?_
                                    refine cl_VA (b := x0) (As := []) (rest := []) F hK hA hP hD hS (c_X3_undo hX9) (cwV 0 hts gL_law_X3_undo rfl rfl rfl (by decide +kernel) ⟨Nat.le_of_ble_eq_true rfl, Nat.le_of_ble_eq_true rfl⟩) rfl rfl rfl hl.1 rfl (Nat.le_of_ble_eq_true rfl) ⟨Nat.le_of_ble_eq_true rfl, Nat.le_of_ble_eq_true rfl⟩ dL_law_205 (fun r205 u205 H locs hw205 hP hD hS => ?_)
                                    try dsimp only at hw205 hP hD
                                    have hX205 : XI now (psh past k now) (kpK k - 1) u138.2.1 (rlV u138.1 u138.2.1 (kpK k)) := XI_cong (fun j hj => un_back hk5 hj) hw205.2
                                    obtain ⟨k2, hk2⟩ : ∃ z9, z9 = kpK k - 1 := ⟨_, rfl⟩
                                    obtain ⟨p2, hp2⟩ : ∃ z9, z9 = psh past k now := ⟨_, rfl⟩
                                    rw [← hk2] at hP hD hX205
                                    rw [← hp2] at hX205
                                    obtain rfl : r205 = (nI (kpK k - 1)) := hw205.1.trans (unA_k hk5)
                                    refine lv_iload hx hb dL_law_208 (lv_at hl 2 rfl) ?_
                                    refine lv_iconst (v := (nI 5)) hx hb dL_law_210 (by decide) ?_
                                    refine lv_icmp_ge (tgt := 219) hx hb dL_law_211 (by decide) (fun c211 => ?_) (fun c211 => ?_)
                                    · skip
                                      replace c211 : 5 ≤ k := by rw [nI_leI (by omega) (by omega)] at c211; try exact c211
                                      refine lv_iconst (v := (nI 4)) hx hb dL_law_219 (by decide) ?_
                                      refine lv_icmp_ne (tgt := 233) hx hb dL_law_220 (by decide) (fun c220 => ?_) (fun c220 => ?_)
                                      · skip
                                        replace c220 : ¬ (kpK k - 1) = 4 := by rw [nI_eq (by omega) (by omega)] at c220; try exact c220
                                        exfalso
                                        omega
                                      · skip
                                        replace c220 : (kpK k - 1) = 4 := by rw [nI_eq (by omega) (by omega)] at c220; try exact c220
                                        refine lv_aload_n hx hb dL_law_223 rfl (lv_at hl 5 rfl) ?_
                                        refine cl_SL (As := [.ref x0]) (rest := []) F hK hA hP hD hS (c_L_mark hX205) (va_cwS 1 hts gL_law_L_mark rfl rfl rfl (by decide +kernel) ⟨Nat.le_of_ble_eq_true rfl, Nat.le_of_ble_eq_true rfl⟩) rfl hl.1 rfl (Nat.le_of_ble_eq_true rfl) ⟨Nat.le_of_ble_eq_true rfl, Nat.le_of_ble_eq_true rfl⟩ dL_law_224 (fun r224 u224 H locs hw224 hP hD hS => ?_)
                                        try dsimp only at hw224 hP hD
                                        obtain rfl : r224 = (mkF now) := hw224
                                        refine lv_lload hx hb dL_law_227 (lv_at hl 1 rfl) ?_
                                        refine W.lcmp hx hb dL_law_229 ?_
                                        refine n_lcmp0 ?_
                                        refine lv_if_eq (tgt := 235) hx hb dL_law_230 (by decide) (fun c230 => ?_) (fun c230 => ?_)
                                        · skip
                                          refine lv_iinc (v := (nI (i + 1))) (lv' := [(2, .int (nI (i + 1))), (7, .int u138.2.2.1), (5, .long (mkF now)), (4, .int (nI k)), (3, .int r110), (1, .ref x0), (0, .ref b)]) hx hb dL_law_235 hl (k := 4) rfl (n_inc1 _) (by decide) rfl (fun ls hl => ?_)
                                          refine lv_goto (tgt := 102) hx hb dL_law_238 (by decide) ?_
                                          exact ih102 (rlV u138.1 u138.2.1 (kpK k)) TV now p2 k2 u138.2.1 (i + 1) _ _ _ (by omega) (hX205) (hK3) (by omega) hP hD hS (lv_sub hl [0, 5, 6] rfl)
                                        · skip
                                          exfalso
                                          exact absurd c230 (by decide)
                                    · skip
                                      replace c211 : ¬ (5 ≤ k) := by rw [nI_leI (by omega) (by omega)] at c211; try exact c211
                                      exfalso
                                      omega
                              · skip
                                replace c181 : ¬ (5 ≤ k) := by rw [nI_leI (by omega) (by omega)] at c181; try exact c181
                                have hkk1 : kpK k = k + 1 := if_pos (by omega)
                                refine lv_iload hx hb dL_law_184 (lv_at hl 2 rfl) ?_
                                refine lv_iconst (v := (nI 1)) hx hb dL_law_186 (by decide) ?_
                                refine lv_iadd hx hb dL_law_187 ?_
                                refine n_as (x' := nI (k + 1)) (nI_add _ _) ?_
                                refine lv_goto (tgt := 192) hx hb dL_law_188 (by decide) ?_
                                refine lv_icmp_ne (tgt := 233) hx hb dL_law_192 (by decide) (fun c192 => ?_) (fun c192 => ?_)
                                · skip
                                  replace c192 : ¬ (kpK k) = (k + 1) := by rw [nI_eq (by omega) (by omega)] at c192; try exact c192
                                  exfalso
                                  omega
                                · skip
                                  replace c192 : (kpK k) = (k + 1) := by rw [nI_eq (by omega) (by omega)] at c192; try exact c192
                                  refine lv_iload_n hx hb dL_law_195 rfl (lv_at hl 3 rfl) ?_
                                  refine lv_bipush (v := (nI 24)) hx hb dL_law_196 (by decide) ?_
                                  refine lv_ishr hx hb dL_law_198 ?_
                                  refine lv_iconst (v := (nI 3)) hx hb dL_law_199 (by decide) ?_
                                  refine lv_iand hx hb dL_law_200 ?_
                                  refine lv_if_ne (tgt := 235) hx hb dL_law_201 (by decide) (fun c201 => ?_) (fun c201 => ?_)
                                  · skip
                                    replace c201 : ¬ ((r110 >>> ((nI 24) &&& 31)) &&& (nI 3)) = nI 0 := c201
                                    refine lv_iinc (v := (nI (i + 1))) (lv' := [(2, .int (nI (i + 1))), (7, .int u138.2.2.1), (5, .long (mkF now)), (4, .int (nI k)), (3, .int r110), (1, .ref x0), (0, .ref b)]) hx hb dL_law_235 hl (k := 4) rfl (n_inc1 _) (by decide) rfl (fun ls hl => ?_)
                                    refine lv_goto (tgt := 102) hx hb dL_law_238 (by decide) ?_
                                    exact ih102 u138.1 TV u138.2.2.2 (psh past k now) (kpK k) u138.2.1 (i + 1) _ _ _ (by omega) (hX9) (hK9) (by omega) hP hD hS (lv_sub hl [0, 5, 6] rfl)
                                  · skip
                                    replace c201 : ((r110 >>> ((nI 24) &&& 31)) &&& (nI 3)) = nI 0 := c201
                                    refine lv_aload_n hx hb dL_law_204 rfl (lv_at hl 5 rfl) ?_
                                    refine cl_VA (b := x0) (As := []) (rest := []) F hK hA hP hD hS (c_X3_undo hX9) (cwV 0 hts gL_law_X3_undo rfl rfl rfl (by decide +kernel) ⟨Nat.le_of_ble_eq_true rfl, Nat.le_of_ble_eq_true rfl⟩) rfl rfl rfl hl.1 rfl (Nat.le_of_ble_eq_true rfl) ⟨Nat.le_of_ble_eq_true rfl, Nat.le_of_ble_eq_true rfl⟩ dL_law_205 (fun r205 u205 H locs hw205 hP hD hS => ?_)
                                    try dsimp only at hw205 hP hD
                                    have hX205 : XI now (psh past k now) (kpK k - 1) u138.2.1 (rlV u138.1 u138.2.1 (kpK k)) := XI_cong (fun j hj => un_back hk5 hj) hw205.2
                                    obtain ⟨k2, hk2⟩ : ∃ z9, z9 = kpK k - 1 := ⟨_, rfl⟩
                                    obtain ⟨p2, hp2⟩ : ∃ z9, z9 = psh past k now := ⟨_, rfl⟩
                                    rw [← hk2] at hP hD hX205
                                    rw [← hp2] at hX205
                                    obtain rfl : r205 = (nI (kpK k - 1)) := hw205.1.trans (unA_k hk5)
                                    refine lv_iload hx hb dL_law_208 (lv_at hl 2 rfl) ?_
                                    refine lv_iconst (v := (nI 5)) hx hb dL_law_210 (by decide) ?_
                                    refine lv_icmp_ge (tgt := 219) hx hb dL_law_211 (by decide) (fun c211 => ?_) (fun c211 => ?_)
                                    · skip
                                      replace c211 : 5 ≤ k := by rw [nI_leI (by omega) (by omega)] at c211; try exact c211
                                      exfalso
                                      omega
                                    · skip
                                      replace c211 : ¬ (5 ≤ k) := by rw [nI_leI (by omega) (by omega)] at c211; try exact c211
                                      refine lv_iload hx hb dL_law_214 (lv_at hl 2 rfl) ?_
                                      refine lv_goto (tgt := 220) hx hb dL_law_216 (by decide) ?_
                                      refine lv_icmp_ne (tgt := 233) hx hb dL_law_220 (by decide) (fun c220 => ?_) (fun c220 => ?_)
                                      · skip
                                        replace c220 : ¬ (kpK k - 1) = k := by rw [nI_eq (by omega) (by omega)] at c220; try exact c220
                                        exfalso
                                        omega
                                      · skip
                                        replace c220 : (kpK k - 1) = k := by rw [nI_eq (by omega) (by omega)] at c220; try exact c220
                                        refine lv_aload_n hx hb dL_law_223 rfl (lv_at hl 5 rfl) ?_
                                        refine cl_SL (As := [.ref x0]) (rest := []) F hK hA hP hD hS (c_L_mark hX205) (va_cwS 1 hts gL_law_L_mark rfl rfl rfl (by decide +kernel) ⟨Nat.le_of_ble_eq_true rfl, Nat.le_of_ble_eq_true rfl⟩) rfl hl.1 rfl (Nat.le_of_ble_eq_true rfl) ⟨Nat.le_of_ble_eq_true rfl, Nat.le_of_ble_eq_true rfl⟩ dL_law_224 (fun r224 u224 H locs hw224 hP hD hS => ?_)
                                        try dsimp only at hw224 hP hD
                                        obtain rfl : r224 = (mkF now) := hw224
                                        refine lv_lload hx hb dL_law_227 (lv_at hl 1 rfl) ?_
                                        refine W.lcmp hx hb dL_law_229 ?_
                                        refine n_lcmp0 ?_
                                        refine lv_if_eq (tgt := 235) hx hb dL_law_230 (by decide) (fun c230 => ?_) (fun c230 => ?_)
                                        · skip
                                          refine lv_iinc (v := (nI (i + 1))) (lv' := [(2, .int (nI (i + 1))), (7, .int u138.2.2.1), (5, .long (mkF now)), (4, .int (nI k)), (3, .int r110), (1, .ref x0), (0, .ref b)]) hx hb dL_law_235 hl (k := 4) rfl (n_inc1 _) (by decide) rfl (fun ls hl => ?_)
                                          refine lv_goto (tgt := 102) hx hb dL_law_238 (by decide) ?_
                                          exact ih102 (rlV u138.1 u138.2.1 (kpK k)) TV now p2 k2 u138.2.1 (i + 1) _ _ _ (by omega) (hX205) (hK3) (by omega) hP hD hS (lv_sub hl [0, 5, 6] rfl)
                                        · skip
                                          exfalso
                                          exact absurd c230 (by decide)
                            · skip
                              have hneg : u138.2.2.1 < 0 := Int32.not_le.mp c145
                              obtain ⟨e1, e2, e3⟩ := fn_neg (b := now) (g := u138.2.2.2) (p := past) (k := k) hneg
                              rw [e1, e2, e3] at hX9
                              rw [e3] at hP hD
                              refine lv_aload_n hx hb dL_law_148 rfl (lv_at hl 5 rfl) ?_
                              refine cl_SL (As := [.ref x0]) (rest := []) F hK hA hP hD hS (c_L_mark hX9) (va_cwS 1 hts gL_law_L_mark rfl rfl rfl (by decide +kernel) ⟨Nat.le_of_ble_eq_true rfl, Nat.le_of_ble_eq_true rfl⟩) rfl hl.1 rfl (Nat.le_of_ble_eq_true rfl) ⟨Nat.le_of_ble_eq_true rfl, Nat.le_of_ble_eq_true rfl⟩ dL_law_149 (fun r149 u149 H locs hw149 hP hD hS => ?_)
                              try dsimp only at hw149 hP hD
                              obtain rfl : r149 = (mkF now) := hw149
                              refine lv_lload hx hb dL_law_152 (lv_at hl 1 rfl) ?_
                              refine W.lcmp hx hb dL_law_154 ?_
                              refine n_lcmp0 ?_
                              refine lv_if_ne (tgt := 233) hx hb dL_law_155 (by decide) (fun c155 => ?_) (fun c155 => ?_)
                              · skip
                                exfalso
                                exact absurd c155 (by decide)
                              · skip
                                refine lv_aload_n hx hb dL_law_158 rfl (lv_at hl 5 rfl) ?_
                                refine lv_bipush (v := (nI 10)) hx hb dL_law_159 (by decide) ?_
                                refine cl_VA (b := x0) (As := [.int (nI 10)]) (rest := []) F hK hA hP hD hS (c_X3_count hX9) (cwV 1 hts gL_law_X3_count rfl rfl rfl (by decide +kernel) ⟨Nat.le_of_ble_eq_true rfl, Nat.le_of_ble_eq_true rfl⟩) rfl rfl rfl hl.1 rfl (Nat.le_of_ble_eq_true rfl) ⟨Nat.le_of_ble_eq_true rfl, Nat.le_of_ble_eq_true rfl⟩ dL_law_161 (fun r161 u161 H locs hw161 hP hD hS => ?_)
                                try dsimp only at hw161 hP hD
                                obtain rfl : r161 = (nI k) := by rw [hw161, ctA_j (by decide)]; rfl
                                refine lv_iload hx hb dL_law_164 (lv_at hl 2 rfl) ?_
                                refine lv_icmp_eq (tgt := 235) hx hb dL_law_166 (by decide) (fun c166 => ?_) (fun c166 => ?_)
                                · skip
                                  replace c166 : k = k := by rw [nI_eq (by omega) (by omega)] at c166; try exact c166
                                  refine lv_iinc (v := (nI (i + 1))) (lv' := [(2, .int (nI (i + 1))), (7, .int u138.2.2.1), (5, .long (mkF now)), (4, .int (nI k)), (3, .int r110), (1, .ref x0), (0, .ref b)]) hx hb dL_law_235 hl (k := 4) rfl (n_inc1 _) (by decide) rfl (fun ls hl => ?_)
                                  refine lv_goto (tgt := 102) hx hb dL_law_238 (by decide) ?_
                                  exact ih102 u138.1 TV now past k u138.2.1 (i + 1) _ _ _ (by omega) (hX9) (hK3) (by omega) hP hD hS (lv_sub hl [0, 5, 6] rfl)
                                · skip
                                  replace c166 : ¬ (k = k) := by rw [nI_eq (by omega) (by omega)] at c166; try exact c166
                                  exfalso
                                  exact c166 rfl
                      exact LP102 _ u92.1 u92.2.2 ZF p1 k1 u92.2.1 0 _ _ _ (by omega) (hX92) (K3_0) (Nat.lt_succ_self _) hP hD hS (lv_sub hl [0, 1, 2] rfl)
                    · skip
                      exfalso
                      exact absurd c95 (by decide)
