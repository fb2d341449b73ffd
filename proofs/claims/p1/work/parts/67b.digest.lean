def wp_X11_digest2 (τ : TS) (K : TS → Int64 → Prop) : Prop :=
  ∀ τ22 : TS, τ22 = tp_up τ 504 (Int32.toNatClampNeg 0) (τ 239 0) → ∀ τ24 : TS, τ24 = tp_up τ22 504 (Int32.toNatClampNeg 1) (τ22 234 1) → ∀ τ26 : TS, τ26 = tp_up τ24 504 (Int32.toNatClampNeg 2) (τ24 234 2) → ∀ τ28 : TS, τ28 = tp_up τ26 504 (Int32.toNatClampNeg 3) (τ26 239 1) → wp_X10_underWay τ28 239 (fun τ29 x30 => ∀ τ32 : TS, τ32 = tp_up τ29 504 (Int32.toNatClampNeg 4) x30 → ∀ τ34 : TS, τ34 = tp_up τ32 504 (Int32.toNatClampNeg 5) (τ32 239 2) → ∃ (I37 : TS → Int32 → Prop) (u37 : TS → Int32 → Nat), I37 τ34 0 ∧ ∀ (τ35 : TS) (x36 : Int32), I37 τ35 x36 → (((6 ≤ x36) → (∃ (I41 : TS → Int32 → Prop) (u41 : TS → Int32 → Nat), I41 τ35 0 ∧ ∀ (τ39 : TS) (x40 : Int32), I41 τ39 x40 → ((((τ39 234 2) ≤ x40) → (∃ (I45 : TS → Int32 → Prop) (u45 : TS → Int32 → Nat), I45 τ39 0 ∧ ∀ (τ43 : TS) (x44 : Int32), I45 τ43 x44 → ((((τ43 239 2) ≤ x44) → (∃ (I49 : TS → Int32 → Prop) (u49 : TS → Int32 → Nat), I49 τ43 0 ∧ ∀ (τ47 : TS) (x48 : Int32), I49 τ47 x48 → ((((τ47 234 1) ≤ x48) → (K τ47 (tp_jl (τ47 234 9) (τ47 234 10)))) ∧ ((¬ (τ47 234 1) ≤ x48) → False)))) ∧ ((¬ (τ43 239 2) ≤ x44) → (vp_in x44 6 ∧ (False)))))) ∧ ((¬ (τ39 234 2) ≤ x40) → (vp_in x40 12 ∧ (∃ J53 : Int32 → Prop, (∀ (x54 : Int32), J53 x54 → (wp_X11_add τ39 234 x54 (fun τ55 => ∀ x56 : Int32, x56 = (2 * x40) → ∃ (I59 : TS → Int32 → Prop) (u59 : TS → Int32 → Nat), I59 τ55 x56 ∧ ∀ (τ57 : TS) (x58 : Int32), I59 τ57 x58 → (((((2 * x40) + 2) ≤ x58) → (∀ x61 : Int32, x61 = x40 + 1 → I41 τ57 x61 ∧ u41 τ57 x61 < u41 τ39 x40)) ∧ ((¬ ((2 * x40) + 2) ≤ x58) → False))))) ∧ ((((τ39 (239 + 1) (Int32.toNatClampNeg x40)) = 0) → (J53 0)) ∧ ((¬ (τ39 (239 + 1) (Int32.toNatClampNeg x40)) = 0) → (J53 1))))))))) ∧ ((¬ 6 ≤ x36) → (vp_in x36 6 ∧ (∀ x64 : Int32, x64 = (τ35 504 (Int32.toNatClampNeg x36)) → wp_X11_add τ35 234 x64 (fun τ65 => ∀ x66 : Int32, x66 = x36 + 1 → I37 τ65 x66 ∧ u37 τ65 x66 < u37 τ35 x36))))))
theorem mw_X11_digest_4 : Cond.fieldLink RX11 27 "TidePostModel" "now" "LTidePostModel$State;" ∈ wsX11_digest := List.mem_of_getElem? (i := 5) rfl
theorem mw_X11_digest_5 : Cond.fieldLink RX11 38 "TidePostModel" "nodes" "I" ∈ wsX11_digest := List.mem_of_getElem? (i := 6) rfl
theorem mw_X11_digest_6 : Cond.fieldLink RX11 45 "TidePostModel" "links" "I" ∈ wsX11_digest := List.mem_of_getElem? (i := 7) rfl
theorem mw_X11_digest_2 : Cond.fieldLink RX11 162 "TidePostModel" "sum" "J" ∈ wsX11_digest := List.mem_of_getElem? (i := 3) rfl
theorem in_X11_digest_X11 : ∀ x ∈ wsX110, x ∈ wsX11_digest := fun _ h => List.mem_cons_of_mem _ (List.mem_append_left _ (List.mem_append_left _ (List.mem_append_right _ h)))
theorem in_X11_digest_X10 : ∀ x ∈ wsX100, x ∈ wsX11_digest := fun _ h => List.mem_cons_of_mem _ (List.mem_append_left _ (List.mem_append_right _ h))
set_option maxHeartbeats 8000000 in
set_option maxRecDepth 100000 in
theorem c_X11_digest2 (w : WPar) {g : Cxt} (τ : TS) (K : TS → Int64 → Prop) (C : Cok w g cX11_digest RX11 wsX11_digest 9 1 22 1 6) (hR : ∀ (τ : TS) (pc : Nat) (ls : List (Nat × Value)) (v : Int64), decode cX11_digest pc = .ok (.lreturn, 1) → K τ v → Zt w g τ (1, 6) pc ls [.long v]) (h0 : tp_is w 234 20) (h5 : tp_is w 504 19) (hw : wp_X11_digest2 τ K) : Zt w g τ (1, 6) 16 [(0, .ref (w.1 234))] [.ref (w.1 504)] := by
  unfold wp_X11_digest2 at hw
  refine z_dup C rfl dX11_digest_16 ?_
  refine z_iconst C 0 (by decide) dX11_digest_17 ?_
  refine z_aload_n C 0 (by rfl) dX11_digest_18 ?_
  refine z_get C (Cn := RX11) (T := TX11) (N := 10) (ci := 10) h0.2 7 (tE20 h0.1) in_X11_digest_X11 rfl (by decide) mw_X11_digest_4 rfl rfl dX11_digest_19 ?_
  refine z_getN C (Cn := RX10) (T := TX10) (N := 13) (ci := 9) (tR20_7 h0).2 0 (tE21 (tR20_7 h0).1) in_X11_digest_X10 rfl (by decide) (List.mem_of_getElem? (i := 3) rfl) rfl rfl dX11_digest_22 ?_
  have s21 : vp_in 0 6 := by unfold vp_in; decide
  refine z_iast C h5.2 (fun _ => tE19 h5.1) s21 dX11_digest_25 (fun τ22 eτ22 => ?_)
  have hw := hw τ22 eτ22
  refine z_dup C rfl dX11_digest_26 ?_
  refine z_iconst C 1 (by decide) dX11_digest_27 ?_
  refine z_aload_n C 0 (by rfl) dX11_digest_28 ?_
  refine z_get C (Cn := RX11) (T := TX11) (N := 10) (ci := 10) h0.2 1 (tE20 h0.1) in_X11_digest_X11 rfl (by decide) mw_X11_digest_5 rfl rfl dX11_digest_29 ?_
  have s23 : vp_in 1 6 := by unfold vp_in; decide
  refine z_iast C h5.2 (fun _ => tE19 h5.1) s23 dX11_digest_32 (fun τ24 eτ24 => ?_)
  have hw := hw τ24 eτ24
  refine z_dup C rfl dX11_digest_33 ?_
  refine z_iconst C 2 (by decide) dX11_digest_34 ?_
  refine z_aload_n C 0 (by rfl) dX11_digest_35 ?_
  refine z_get C (Cn := RX11) (T := TX11) (N := 10) (ci := 10) h0.2 2 (tE20 h0.1) in_X11_digest_X11 rfl (by decide) mw_X11_digest_6 rfl rfl dX11_digest_36 ?_
  have s25 : vp_in 2 6 := by unfold vp_in; decide
  refine z_iast C h5.2 (fun _ => tE19 h5.1) s25 dX11_digest_39 (fun τ26 eτ26 => ?_)
  have hw := hw τ26 eτ26
  refine z_dup C rfl dX11_digest_40 ?_
  refine z_iconst C 3 (by decide) dX11_digest_41 ?_
  refine z_aload_n C 0 (by rfl) dX11_digest_42 ?_
  refine z_get C (Cn := RX11) (T := TX11) (N := 10) (ci := 10) h0.2 7 (tE20 h0.1) in_X11_digest_X11 rfl (by decide) mw_X11_digest_4 rfl rfl dX11_digest_43 ?_
  refine z_getN C (Cn := RX10) (T := TX10) (N := 13) (ci := 9) (tR20_7 h0).2 1 (tE21 (tR20_7 h0).1) in_X11_digest_X10 rfl (by decide) (List.mem_of_getElem? (i := 4) rfl) rfl rfl dX11_digest_46 ?_
  have s27 : vp_in 3 6 := by unfold vp_in; decide
  refine z_iast C h5.2 (fun _ => tE19 h5.1) s27 dX11_digest_49 (fun τ28 eτ28 => ?_)
  have hw := hw τ28 eτ28
  refine z_dup C rfl dX11_digest_50 ?_
  refine z_iconst C 4 (by decide) dX11_digest_51 ?_
  refine z_aload_n C 0 (by rfl) dX11_digest_52 ?_
  refine z_get C (Cn := RX11) (T := TX11) (N := 10) (ci := 10) h0.2 7 (tE20 h0.1) in_X11_digest_X11 rfl (by decide) mw_X11_digest_4 rfl rfl dX11_digest_53 ?_
  refine zv_i C (As := []) (bytes := cX10_underWay) (maxL := 3) (F1 := 0) (L1 := 0) (c_X10_underWay w _ 239 _ (tR20_7 h0) hw) (tR20_7 h0).2 (tE21 (tR20_7 h0).1) rfl 0 gX11_digest_X10_underWay rfl (by decide +kernel) ⟨Nat.le_of_ble_eq_true rfl, Nat.le_of_ble_eq_true rfl⟩ rfl (Nat.le_of_ble_eq_true rfl) ⟨Nat.le_of_ble_eq_true rfl, Nat.le_of_ble_eq_true rfl⟩ rfl dX11_digest_56 (fun x30 τ29 hw => ?_)
  have s31 : vp_in 4 6 := by unfold vp_in; decide
  refine z_iast C h5.2 (fun _ => tE19 h5.1) s31 dX11_digest_59 (fun τ32 eτ32 => ?_)
  have hw := hw τ32 eτ32
  refine z_dup C rfl dX11_digest_60 ?_
  refine z_iconst C 5 (by decide) dX11_digest_61 ?_
  refine z_aload_n C 0 (by rfl) dX11_digest_62 ?_
  refine z_get C (Cn := RX11) (T := TX11) (N := 10) (ci := 10) h0.2 7 (tE20 h0.1) in_X11_digest_X11 rfl (by decide) mw_X11_digest_4 rfl rfl dX11_digest_63 ?_
  refine z_getN C (Cn := RX10) (T := TX10) (N := 13) (ci := 9) (tR20_7 h0).2 2 (tE21 (tR20_7 h0).1) in_X11_digest_X10 rfl (by decide) (List.mem_of_getElem? (i := 5) rfl) rfl rfl dX11_digest_66 ?_
  have s33 : vp_in 5 6 := by unfold vp_in; decide
  refine z_iast C h5.2 (fun _ => tE19 h5.1) s33 dX11_digest_69 (fun τ34 eτ34 => ?_)
  have hw := hw τ34 eτ34
  refine z_astore_n C [(1, .ref (w.1 504)), (0, .ref (w.1 234))] dX11_digest_70 (by decide) rfl ?_
  refine z_aload_n C 0 (by rfl) dX11_digest_71 ?_
  refine z_astore_n C [(2, .ref (w.1 504)), (1, .ref (w.1 504)), (0, .ref (w.1 234))] dX11_digest_72 (by decide) rfl ?_
  refine z_aload_n C 0 (by rfl) dX11_digest_73 ?_
  refine z_alen C 0 6 h5.2 (tE19 h5.1) rfl rfl dX11_digest_74 ?_
  refine z_istore_n C [(3, .int 6), (2, .ref (w.1 504)), (1, .ref (w.1 504)), (0, .ref (w.1 234))] dX11_digest_75 (by decide) rfl ?_
  refine z_iconst C 0 (by decide) dX11_digest_76 ?_
  refine z_istore C [(4, .int 0), (3, .int 6), (2, .ref (w.1 504)), (1, .ref (w.1 504)), (0, .ref (w.1 234))] dX11_digest_77 (by decide) rfl ?_
  obtain ⟨I37, u37, hI37, hs37⟩ := hw
  have lp37 : ∀ (n37 : Nat) (τ35 : TS) (x36 : Int32), u37 τ35 x36 < n37 → I37 τ35 x36 → Zt w g τ35 (1, 6) 79 [(0, .ref (w.1 234)), (2, .ref (w.1 504)), (3, .int 6), (4, .int x36)] [] := by
    intro n37
    induction n37 with
    | zero => intro τ35 x36 hlt37; exact absurd hlt37 (Nat.not_lt_zero _)
    | succ n37 ih37 =>
      intro τ35 x36 hlt37 hh37
      have hw := hs37 τ35 x36 hh37
      refine z_iload C 3 (by rfl) dX11_digest_79 ?_
      refine z_iload_n C 2 (by rfl) dX11_digest_81 ?_
      refine z_icmp_ge (tgt := 103) C dX11_digest_82 (by decide) (fun c38 => ?_) (fun c38 => ?_)
      · have hw := hw.1 c38
        refine z_iconst C 0 (by decide) dX11_digest_103 ?_
        refine z_istore_n C [(2, .int 0), (0, .ref (w.1 234)), (3, .int 6), (4, .int x36)] dX11_digest_104 (by decide) rfl ?_
        obtain ⟨I41, u41, hI41, hs41⟩ := hw
        have lp41 : ∀ (n41 : Nat) (τ39 : TS) (x40 : Int32), u41 τ39 x40 < n41 → I41 τ39 x40 → Zt w g τ39 (1, 6) 105 [(0, .ref (w.1 234)), (2, .int x40)] [] := by
          intro n41
          induction n41 with
          | zero => intro τ39 x40 hlt41; exact absurd hlt41 (Nat.not_lt_zero _)
          | succ n41 ih41 =>
            intro τ39 x40 hlt41 hh41
            have hw := hs41 τ39 x40 hh41
            refine z_iload_n C 1 (by rfl) dX11_digest_105 ?_
            refine z_aload_n C 0 (by rfl) dX11_digest_106 ?_
            refine z_get C (Cn := RX11) (T := TX11) (N := 10) (ci := 10) h0.2 2 (tE20 h0.1) in_X11_digest_X11 rfl (by decide) mw_X11_digest_6 rfl rfl dX11_digest_107 ?_
            refine z_icmp_ge (tgt := 244) C dX11_digest_110 (by decide) (fun c42 => ?_) (fun c42 => ?_)
            · have hw := hw.1 c42
              refine z_iconst C 0 (by decide) dX11_digest_244 ?_
              refine z_istore_n C [(2, .int 0), (0, .ref (w.1 234))] dX11_digest_245 (by decide) rfl ?_
              obtain ⟨I45, u45, hI45, hs45⟩ := hw
              have lp45 : ∀ (n45 : Nat) (τ43 : TS) (x44 : Int32), u45 τ43 x44 < n45 → I45 τ43 x44 → Zt w g τ43 (1, 6) 246 [(0, .ref (w.1 234)), (2, .int x44)] [] := by
                intro n45
                induction n45 with
                | zero => intro τ43 x44 hlt45; exact absurd hlt45 (Nat.not_lt_zero _)
                | succ n45 ih45 =>
                  intro τ43 x44 hlt45 hh45
                  have hw := hs45 τ43 x44 hh45
                  refine z_iload_n C 1 (by rfl) dX11_digest_246 ?_
                  refine z_aload_n C 0 (by rfl) dX11_digest_247 ?_
                  refine z_get C (Cn := RX11) (T := TX11) (N := 10) (ci := 10) h0.2 7 (tE20 h0.1) in_X11_digest_X11 rfl (by decide) mw_X11_digest_4 rfl rfl dX11_digest_248 ?_
                  refine z_getN C (Cn := RX10) (T := TX10) (N := 13) (ci := 9) (tR20_7 h0).2 2 (tE21 (tR20_7 h0).1) in_X11_digest_X10 rfl (by decide) (List.mem_of_getElem? (i := 5) rfl) rfl rfl dX11_digest_251 ?_
                  refine z_icmp_ge (tgt := 465) C dX11_digest_254 (by decide) (fun c46 => ?_) (fun c46 => ?_)
                  · have hw := hw.1 c46
                    refine z_iconst C 0 (by decide) dX11_digest_465 ?_
                    refine z_istore_n C [(2, .int 0), (0, .ref (w.1 234))] dX11_digest_466 (by decide) rfl ?_
                    obtain ⟨I49, u49, hI49, hs49⟩ := hw
                    have lp49 : ∀ (n49 : Nat) (τ47 : TS) (x48 : Int32), u49 τ47 x48 < n49 → I49 τ47 x48 → Zt w g τ47 (1, 6) 467 [(0, .ref (w.1 234)), (2, .int x48)] [] := by
                      intro n49
                      induction n49 with
                      | zero => intro τ47 x48 hlt49; exact absurd hlt49 (Nat.not_lt_zero _)
                      | succ n49 ih49 =>
                        intro τ47 x48 hlt49 hh49
                        have hw := hs49 τ47 x48 hh49
                        refine z_iload_n C 1 (by rfl) dX11_digest_467 ?_
                        refine z_aload_n C 0 (by rfl) dX11_digest_468 ?_
                        refine z_get C (Cn := RX11) (T := TX11) (N := 10) (ci := 10) h0.2 1 (tE20 h0.1) in_X11_digest_X11 rfl (by decide) mw_X11_digest_5 rfl rfl dX11_digest_469 ?_
                        refine z_icmp_ge (tgt := 494) C dX11_digest_472 (by decide) (fun c50 => ?_) (fun c50 => ?_)
                        · have hw := hw.1 c50
                          refine z_aload_n C 0 (by rfl) dX11_digest_494 ?_
                          refine z_get C (Cn := RX11) (T := TX11) (N := 10) (ci := 10) h0.2 9 (tE20 h0.1) in_X11_digest_X11 rfl (by decide) mw_X11_digest_2 rfl rfl dX11_digest_495 ?_
                          exact hR _ _ _ _ dX11_digest_498 hw
                        · have hw := hw.2 c50
                          refine z_aload_n C 0 (by rfl) dX11_digest_475 ?_
                          refine z_aload_n C 0 (by rfl) dX11_digest_476 ?_
                          refine z_get C (Cn := RX11) (T := TX11) (N := 10) (ci := 10) h0.2 7 (tE20 h0.1) in_X11_digest_X11 rfl (by decide) mw_X11_digest_4 rfl rfl dX11_digest_477 ?_
                          refine z_iconst C 0 (by decide) dX11_digest_480 ?_
                          refine z_iload_n C 1 (by rfl) dX11_digest_481 ?_
                          exact hw.elim
                    refine z_sub [1, 0] [(0, .ref (w.1 234)), (2, .int 0)] rfl ?_
                    exact lp49 _ τ43 0 (Nat.lt_succ_self _) hI49
                  · have hw := hw.2 c46
                    refine z_aload_n C 0 (by rfl) dX11_digest_257 ?_
                    refine z_get C (Cn := RX11) (T := TX11) (N := 10) (ci := 10) h0.2 7 (tE20 h0.1) in_X11_digest_X11 rfl (by decide) mw_X11_digest_4 rfl rfl dX11_digest_258 ?_
                    refine z_getN C (Cn := RX10) (T := TX10) (N := 13) (ci := 9) (tR20_7 h0).2 9 (tE21 (tR20_7 h0).1) in_X11_digest_X10 rfl (by decide) (List.mem_of_getElem? (i := 11) rfl) rfl rfl dX11_digest_261 ?_
                    refine z_iload_n C 1 (by rfl) dX11_digest_264 ?_
                    obtain ⟨s51, hw⟩ := hw
                    refine z_aald_q4 C (tR21_9 (tR20_7 h0)).2 (tE26 (tR21_9 (tR20_7 h0)).1) s51 (if_pos (tp_lt s51)) dX11_digest_265 ?_
                    refine z_astore_n C [(3, .ref (w.1 ((239 + 15) + 1 + (Int32.toNatClampNeg x44)))), (0, .ref (w.1 234)), (2, .int x44)] dX11_digest_266 (by decide) rfl ?_
                    refine z_bipush C 19 (by decide) dX11_digest_267 ?_
                    exact hw.elim
              refine z_sub [1, 0] [(0, .ref (w.1 234)), (2, .int 0)] rfl ?_
              exact lp45 _ τ39 0 (Nat.lt_succ_self _) hI45
            · have hw := hw.2 c42
              refine z_aload_n C 0 (by rfl) dX11_digest_113 ?_
              refine z_aload_n C 0 (by rfl) dX11_digest_114 ?_
              refine z_get C (Cn := RX11) (T := TX11) (N := 10) (ci := 10) h0.2 7 (tE20 h0.1) in_X11_digest_X11 rfl (by decide) mw_X11_digest_4 rfl rfl dX11_digest_115 ?_
              refine z_getN C (Cn := RX10) (T := TX10) (N := 13) (ci := 9) (tR20_7 h0).2 3 (tE21 (tR20_7 h0).1) in_X11_digest_X10 rfl (by decide) (List.mem_of_getElem? (i := 6) rfl) rfl rfl dX11_digest_118 ?_
              refine z_iload_n C 1 (by rfl) dX11_digest_121 ?_
              obtain ⟨s52, hw⟩ := hw
              refine z_zald C (tR21_3 (tR20_7 h0)).2 (tE12 (tR21_3 (tR20_7 h0)).1) s52 dX11_digest_122 ?_
              obtain ⟨J53, hJ53, hw⟩ := hw
              have jn53 : ∀ (x54 : Int32), J53 x54 → Zt w g τ39 (1, 6) 131 [(0, .ref (w.1 234)), (2, .int x40)] [.int x54, .ref (w.1 234)] := by
                intro x54 hj53
                have hw := hJ53 x54 hj53
                refine zv_v C (As := [.int x54]) (bytes := cX11_add) (maxL := 2) (F1 := 0) (L1 := 0) (c_X11_add w _ 234 x54 _ h0 hw) h0.2 (tE20 h0.1) rfl 1 gX11_digest_X11_add rfl (by decide +kernel) ⟨Nat.le_of_ble_eq_true rfl, Nat.le_of_ble_eq_true rfl⟩ rfl (Nat.le_of_ble_eq_true rfl) ⟨Nat.le_of_ble_eq_true rfl, Nat.le_of_ble_eq_true rfl⟩ rfl dX11_digest_131 (fun τ55 hw => ?_)
                refine z_iconst C 2 (by decide) dX11_digest_134 ?_
                refine z_iload_n C 1 (by rfl) dX11_digest_135 ?_
                refine z_imul C dX11_digest_136 ?_
                refine z_top (fun x56 ex56 => ?_)
                have hw := hw x56 ex56
                refine z_istore_n C [(3, .int x56), (0, .ref (w.1 234)), (2, .int x40)] dX11_digest_137 (by decide) rfl ?_
                obtain ⟨I59, u59, hI59, hs59⟩ := hw
                have lp59 : ∀ (n59 : Nat) (τ57 : TS) (x58 : Int32), u59 τ57 x58 < n59 → I59 τ57 x58 → Zt w g τ57 (1, 6) 138 [(0, .ref (w.1 234)), (2, .int x40), (3, .int x58)] [] := by
                  intro n59
                  induction n59 with
                  | zero => intro τ57 x58 hlt59; exact absurd hlt59 (Nat.not_lt_zero _)
                  | succ n59 ih59 =>
                    intro τ57 x58 hlt59 hh59
                    have hw := hs59 τ57 x58 hh59
                    refine z_iload_n C 2 (by rfl) dX11_digest_138 ?_
                    refine z_iconst C 2 (by decide) dX11_digest_139 ?_
                    refine z_iload_n C 1 (by rfl) dX11_digest_140 ?_
                    refine z_imul C dX11_digest_141 ?_
                    refine z_iconst C 2 (by decide) dX11_digest_142 ?_
                    refine z_iadd C dX11_digest_143 ?_
                    refine z_icmp_ge (tgt := 238) C dX11_digest_144 (by decide) (fun c60 => ?_) (fun c60 => ?_)
                    · have hw := hw.1 c60
                      obtain ⟨x61, ex61⟩ : ∃ z : Int32, z = x40 + 1 := ⟨_, rfl⟩
                      have hw := hw x61 ex61
                      refine z_iinc C 1 x61 [(2, .int x61), (0, .ref (w.1 234)), (3, .int x58)] dX11_digest_238 (by rfl) (by rw [ex61]; rfl) (by decide) rfl ?_
                      refine z_goto (tgt := 105) C dX11_digest_241 (by decide) ?_
                      refine z_sub [1, 0] [(0, .ref (w.1 234)), (2, .int x61)] rfl ?_
                      exact ih41 τ57 x61 (Nat.lt_of_lt_of_le hw.2 (Nat.le_of_lt_succ hlt41)) hw.1
                    · have hw := hw.2 c60
                      refine z_iconst C 3 (by decide) dX11_digest_147 ?_
                      exact hw.elim
                refine z_sub [1, 2, 0] [(0, .ref (w.1 234)), (2, .int x40), (3, .int x56)] rfl ?_
                exact lp59 _ τ55 x56 (Nat.lt_succ_self _) hI59
              refine z_if_eq (tgt := 130) C dX11_digest_123 (by decide) (fun c62 => ?_) (fun c62 => ?_)
              · have hw := hw.1 c62
                refine z_iconst C 0 (by decide) dX11_digest_130 ?_
                exact jn53 0 hw
              · have hw := hw.2 c62
                refine z_iconst C 1 (by decide) dX11_digest_126 ?_
                refine z_goto (tgt := 131) C dX11_digest_127 (by decide) ?_
                exact jn53 1 hw
        refine z_sub [1, 0] [(0, .ref (w.1 234)), (2, .int 0)] rfl ?_
        exact lp41 _ τ35 0 (Nat.lt_succ_self _) hI41
      · have hw := hw.2 c38
        refine z_aload_n C 1 (by rfl) dX11_digest_85 ?_
        refine z_iload C 3 (by rfl) dX11_digest_86 ?_
        obtain ⟨s63, hw⟩ := hw
        refine z_iald C h5.2 (tE19 h5.1) s63 dX11_digest_88 ?_
        refine z_top (fun x64 ex64 => ?_)
        have hw := hw x64 ex64
        refine z_istore C [(5, .int x64), (0, .ref (w.1 234)), (2, .ref (w.1 504)), (3, .int 6), (4, .int x36)] dX11_digest_89 (by decide) rfl ?_
        refine z_aload_n C 1 (by rfl) dX11_digest_91 ?_
        refine z_iload C 0 (by rfl) dX11_digest_92 ?_
        refine zv_v C (As := [.int x64]) (bytes := cX11_add) (maxL := 2) (F1 := 0) (L1 := 0) (c_X11_add w _ 234 x64 _ h0 hw) h0.2 (tE20 h0.1) rfl 1 gX11_digest_X11_add rfl (by decide +kernel) ⟨Nat.le_of_ble_eq_true rfl, Nat.le_of_ble_eq_true rfl⟩ rfl (Nat.le_of_ble_eq_true rfl) ⟨Nat.le_of_ble_eq_true rfl, Nat.le_of_ble_eq_true rfl⟩ rfl dX11_digest_94 (fun τ65 hw => ?_)
        obtain ⟨x66, ex66⟩ : ∃ z : Int32, z = x36 + 1 := ⟨_, rfl⟩
        have hw := hw x66 ex66
        refine z_iinc C 4 x66 [(4, .int x66), (5, .int x64), (0, .ref (w.1 234)), (2, .ref (w.1 504)), (3, .int 6)] dX11_digest_97 (by rfl) (by rw [ex66]; rfl) (by decide) rfl ?_
        refine z_goto (tgt := 79) C dX11_digest_100 (by decide) ?_
        refine z_sub [2, 3, 4, 0] [(0, .ref (w.1 234)), (2, .ref (w.1 504)), (3, .int 6), (4, .int x66)] rfl ?_
        exact ih37 τ65 x66 (Nat.lt_of_lt_of_le hw.2 (Nat.le_of_lt_succ hlt37)) hw.1
  refine z_sub [4, 2, 1, 0] [(0, .ref (w.1 234)), (2, .ref (w.1 504)), (3, .int 6), (4, .int 0)] rfl ?_
  exact lp37 _ τ34 0 (Nat.lt_succ_self _) hI37
def wp_X11_digest (τ : TS)  (K : TS → Int64 → Prop) : Prop :=
  ∀ τ21 : TS, τ21 = tp_up τ 234 0 0 → ∀ τ22 : TS, τ22 = tp_rw τ21 234 (upd (upd (τ21 234) 9 (tp_hi 58043)) 10 (tp_lo 58043)) → ∀ τ9 : TS, τ9 = tp_rw τ22 504 (fun _ => 0) → wp_X11_digest2 τ9 K
theorem mw_X11_digest_0 : Cond.fieldLink RX11 34 "TidePostModel" "thrown" "I" ∈ wsX11_digest := List.mem_of_getElem? (i := 1) rfl
theorem mw_X11_digest_1 : Cond.constantLong RX11 168 (58043) ∈ wsX11_digest := List.mem_of_getElem? (i := 2) rfl
theorem mw_X11_digest_3 : Cond.arrayClass .int ∈ wsX11_digest := List.mem_of_getElem? (i := 4) rfl
set_option maxHeartbeats 4000000 in
set_option maxRecDepth 100000 in
theorem c_X11_digest (w : WPar) (τ : TS)  (K : TS → Int64 → Prop) (hN : tp_N w = 504) (h0 : tp_is w 234 20) (hw : wp_X11_digest τ  K) : MLg w yX11_digest wsX11_digest 1 22 1 6 [.ref (w.1 234)] τ K := by
  refine tp_enterLg (cc := cX11_digest) (maxL := 9) (own := RX11) (by decide) rfl rfl (Nat.le_of_ble_eq_true rfl) (fun g C hR => ?_)
  show Zt w g τ (0, 0) 0 [(0, .ref (w.1 234))] []
  unfold wp_X11_digest at hw
  refine z_aload_n C 0 (by rfl) dX11_digest_0 ?_
  refine z_iconst C 0 (by decide) dX11_digest_1 ?_
  refine z_put C (Cn := RX11) (T := TX11) (N := 10) (ci := 10) h0.2 0 (tE20 h0.1) (tS20_0 h0.1 _) in_X11_digest_X11 tyX11 tyX11_ok nmX11 rfl (by decide) mw_X11_digest_0 rfl rfl (tyX11_ok 0 (by decide)) rfl rfl (Nat.le_of_ble_eq_true rfl) dX11_digest_2 (fun τ21 eτ21 => ?_)
  have hw := hw τ21 eτ21
  refine z_aload_n C 0 (by rfl) dX11_digest_5 ?_
  refine z_ldc2 C 58043 mw_X11_digest_1 dX11_digest_6 ?_
  refine z_putJ C (Cn := RX11) (T := TX11) (N := 10) (ci := 10) h0.2 9 (tE20 h0.1) (tS20_9 h0.1 _) in_X11_digest_X11 tyX11 tyX11_ok nmX11 rfl (by decide) mw_X11_digest_2 rfl rfl (tyX11_ok 9 (by decide)) rfl rfl (Nat.le_of_ble_eq_true rfl) dX11_digest_9 (fun τ22 eτ22 => ?_)
  have hw := hw τ22 eτ22
  refine z_bipush C 6 (by decide) dX11_digest_12 ?_
  refine z_newT C hN mw_X11_digest_3 ⟨Nat.le_of_ble_eq_true rfl, Nat.le_of_ble_eq_true rfl⟩ dX11_digest_14 (k2 := (1, 6)) rfl (fun w2 hl2 hN2 ha C2 hZ τ9 e9 => ?_)
  have hw := hw τ9 e9
  rw [← ha 234 (by decide)]
  exact c_X11_digest2 w2 τ9 K C2 (fun τ pc ls v hd hk => hZ _ _ _ _ _ (hR τ pc ls v hd hk)) ⟨h0.1, by rw [hN2]; decide, by rw [hN2]; decide⟩ ⟨by decide, by rw [hN2]; decide, by rw [hN2]; decide⟩ hw
