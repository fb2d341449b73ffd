def wp_J9_max_7cf53 (τ : TS) (x0 : Int32) (x1 : Int32) (K : TS → Int32 → Prop) : Prop :=
  ((x0 < x1) → (K τ x1)) ∧ ((¬ x0 < x1) → (K τ x0))
set_option maxHeartbeats 4000000 in
set_option maxRecDepth 100000 in
theorem c_J9_max_7cf53 (w : WPar) (τ : TS) (x0 : Int32) (x1 : Int32) (K : TS → Int32 → Prop)  (hw : wp_J9_max_7cf53 τ x0 x1 K) : MI w yJ9_max_7cf53 wsJ9_max_7cf53 0 0 [.int x0, .int x1] τ K := by
  refine tp_enterIF (cc := cJ9_max_7cf53) (maxL := 2) (own := RJ9) (by decide +kernel) rfl rfl (Nat.le_of_ble_eq_true rfl) (fun g C hR => ?_)
  show Zt w g τ (0, 0) 0 [(0, .int x0), (1, .int x1)] []
  unfold wp_J9_max_7cf53 at hw
  refine z_iload_n C 0 (by rfl) dJ9_max_7cf53_0 ?_
  refine z_iload_n C 1 (by rfl) dJ9_max_7cf53_1 ?_
  refine z_icmp_lt (tgt := 9) C dJ9_max_7cf53_2 (by decide) (fun c21 => ?_) (fun c21 => ?_)
  · have hw := hw.1 c21
    refine z_iload_n C 1 (by rfl) dJ9_max_7cf53_9 ?_
    exact hR _ _ _ _ dJ9_max_7cf53_10 hw
  · have hw := hw.2 c21
    refine z_iload_n C 0 (by rfl) dJ9_max_7cf53_5 ?_
    refine z_goto (tgt := 10) C dJ9_max_7cf53_6 (by decide) ?_
    exact hR _ _ _ _ dJ9_max_7cf53_10 hw
def wp_J9_min_7cf53 (τ : TS) (x0 : Int32) (x1 : Int32) (K : TS → Int32 → Prop) : Prop :=
  ((x1 < x0) → (K τ x1)) ∧ ((¬ x1 < x0) → (K τ x0))
set_option maxHeartbeats 4000000 in
set_option maxRecDepth 100000 in
theorem c_J9_min_7cf53 (w : WPar) (τ : TS) (x0 : Int32) (x1 : Int32) (K : TS → Int32 → Prop)  (hw : wp_J9_min_7cf53 τ x0 x1 K) : MI w yJ9_min_7cf53 wsJ9_min_7cf53 0 0 [.int x0, .int x1] τ K := by
  refine tp_enterIF (cc := cJ9_min_7cf53) (maxL := 2) (own := RJ9) (by decide +kernel) rfl rfl (Nat.le_of_ble_eq_true rfl) (fun g C hR => ?_)
  show Zt w g τ (0, 0) 0 [(0, .int x0), (1, .int x1)] []
  unfold wp_J9_min_7cf53 at hw
  refine z_iload_n C 0 (by rfl) dJ9_min_7cf53_0 ?_
  refine z_iload_n C 1 (by rfl) dJ9_min_7cf53_1 ?_
  refine z_icmp_gt (tgt := 9) C dJ9_min_7cf53_2 (by decide) (fun c21 => ?_) (fun c21 => ?_)
  · have hw := hw.1 c21
    refine z_iload_n C 1 (by rfl) dJ9_min_7cf53_9 ?_
    exact hR _ _ _ _ dJ9_min_7cf53_10 hw
  · have hw := hw.2 c21
    refine z_iload_n C 0 (by rfl) dJ9_min_7cf53_5 ?_
    refine z_goto (tgt := 10) C dJ9_min_7cf53_6 (by decide) ?_
    exact hR _ _ _ _ dJ9_min_7cf53_10 hw
def wp_L_below (τ : TS) (x0 : Int32) (x1 : Int32) (K : TS → Int32 → Prop) : Prop :=
  ¬ x1 = 0 ∧ (∀ x22 : Int32, x22 = ((x0 &&& 2147483647) - (x0 &&& 2147483647) / x1 * x1) → K τ x22)
theorem mw_L_below_0 : Cond.constant RL 7 (2147483647) ∈ wsL_below := List.mem_of_getElem? (i := 1) rfl
set_option maxHeartbeats 4000000 in
set_option maxRecDepth 100000 in
theorem c_L_below (w : WPar) (τ : TS) (x0 : Int32) (x1 : Int32) (K : TS → Int32 → Prop)  (hw : wp_L_below τ x0 x1 K) : MI w yL_below wsL_below 0 0 [.int x0, .int x1] τ K := by
  refine tp_enterI (cc := cL_below) (maxL := 2) (own := RL) (by decide) rfl rfl (Nat.le_of_ble_eq_true rfl) (fun g C hR => ?_)
  show Zt w g τ (0, 0) 0 [(0, .int x0), (1, .int x1)] []
  unfold wp_L_below at hw
  refine z_iload_n C 0 (by rfl) dL_below_0 ?_
  refine z_ldc C 2147483647 mw_L_below_0 dL_below_1 ?_
  refine z_iand C dL_below_3 ?_
  refine z_iload_n C 1 (by rfl) dL_below_4 ?_
  obtain ⟨s21, hw⟩ := hw
  refine z_irem C s21 dL_below_5 ?_
  refine z_top (fun x22 ex22 => ?_)
  have hw := hw x22 ex22
  exact hR _ _ _ _ dL_below_6 hw
def wp_L_isSound (τ : TS) (j0 : Nat) (x1 : Int32) (K : TS → Int32 → Prop) : Prop :=
  ∃ (I23 : TS → Int32 → Prop) (u23 : TS → Int32 → Nat), I23 τ 0 ∧ ∀ (τ21 : TS) (x22 : Int32), I23 τ21 x22 → (wp_X8_connections τ21 j0 (fun τ24 x25 => ((x25 ≤ x22) → (∃ (I30 : TS → Int32 → Int32 → Prop) (u30 : TS → Int32 → Int32 → Nat), I30 τ24 0 0 ∧ ∀ (τ27 : TS) (x28 : Int32) (x29 : Int32), I30 τ27 x28 x29 → (wp_X8_links τ27 j0 (fun τ31 x32 => ((x32 ≤ x29) → (∃ (I36 : TS → Int32 → Prop) (u36 : TS → Int32 → Nat), I36 τ31 0 ∧ ∀ (τ34 : TS) (x35 : Int32), I36 τ34 x35 → (((x1 ≤ x35) → (wp_X8_underWay τ34 j0 (fun τ38 x39 => ((¬ x39 = x28) → (K τ38 0)) ∧ ((x39 = x28) → (K τ38 1))))) ∧ ((¬ x1 ≤ x35) → (wp_X8_nextLink τ34 j0 x35 0 (fun τ41 x42 => ∃ J43 : Int32 → Prop, (∀ (x44 : Int32), J43 x44 → (∃ J45 : TS → Int32 → Prop, (∀ (τ46 : TS) (x47 : Int32), J45 τ46 x47 → (((¬ x44 = x47) → (K τ46 0)) ∧ ((x44 = x47) → (wp_X8_distance τ46 j0 x35 0 (fun τ49 x50 => wp_X8_distance τ49 j0 0 x35 (fun τ51 x52 => ((¬ x50 = x52) → (K τ51 0)) ∧ ((x50 = x52) → (((x42 < 0) → (∀ x55 : Int32, x55 = x35 + 1 → I36 τ51 x55 ∧ u36 τ51 x55 < u36 τ34 x35)) ∧ ((¬ x42 < 0) → (wp_X8_isUp τ51 j0 x42 (fun τ56 x57 => ((¬ x57 = 0) → (∀ x59 : Int32, x59 = x35 + 1 → I36 τ56 x59 ∧ u36 τ56 x59 < u36 τ34 x35)) ∧ ((x57 = 0) → (K τ56 0))))))))))))) ∧ (∃ J60 : TS → Prop, (∀ (τ61 : TS), J60 τ61 → (J45 τ61 1)) ∧ (((x35 = 0) → (J60 τ41)) ∧ ((¬ x35 = 0) → (wp_X8_distance τ41 j0 x35 0 (fun τ63 x64 => ((0 ≤ x64) → (J45 τ63 0)) ∧ ((¬ 0 ≤ x64) → (J60 τ63))))))))) ∧ (((0 ≤ x42) → (J43 0)) ∧ ((¬ 0 ≤ x42) → (J43 1))))))))) ∧ ((¬ x32 ≤ x29) → (∃ (I70 : TS → Int32 → Int32 → Prop) (u70 : TS → Int32 → Int32 → Nat), I70 τ31 x28 0 ∧ ∀ (τ67 : TS) (x68 : Int32) (x69 : Int32), I70 τ67 x68 x69 → (((2 ≤ x69) → (∀ x72 : Int32, x72 = x29 + 1 → I30 τ67 x68 x72 ∧ u30 τ67 x68 x72 < u30 τ27 x28 x29)) ∧ ((¬ 2 ≤ x69) → (wp_X8_queued τ67 j0 x29 x69 (fun τ73 x74 => wp_X8_flying τ73 j0 x29 x69 (fun τ75 x76 => ∀ x77 : Int32, x77 = (x74 + x76) → wp_X8_isUp τ75 j0 x29 (fun τ78 x79 => ((¬ x79 = 0) → (wp_X8_queued τ78 j0 x29 x69 (fun τ81 x82 => ((20 < x82) → (K τ81 0)) ∧ ((¬ 20 < x82) → (wp_X8_flying τ81 j0 x29 x69 (fun τ84 x85 => ((x85 ≤ 9) → (∀ x87 : Int32, x87 = (x68 + x77) → ∀ x88 : Int32, x88 = x69 + 1 → I70 τ84 x87 x88 ∧ u70 τ84 x87 x88 < u70 τ67 x68 x69)) ∧ ((¬ x85 ≤ 9) → (K τ84 0)))))))) ∧ ((x79 = 0) → (((0 < x77) → (K τ78 0)) ∧ ((¬ 0 < x77) → (wp_X8_queued τ78 j0 x29 x69 (fun τ90 x91 => ((20 < x91) → (K τ90 0)) ∧ ((¬ 20 < x91) → (wp_X8_flying τ90 j0 x29 x69 (fun τ93 x94 => ((x94 ≤ 9) → (∀ x96 : Int32, x96 = (x68 + x77) → ∀ x97 : Int32, x97 = x69 + 1 → I70 τ93 x96 x97 ∧ u70 τ93 x96 x97 < u70 τ67 x68 x69)) ∧ ((¬ x94 ≤ 9) → (K τ93 0)))))))))))))))))))))) ∧ ((¬ x25 ≤ x22) → (wp_X8_stateOf τ24 j0 x22 (fun τ98 x99 => wp_X8_base τ98 j0 x22 (fun τ100 x101 => wp_X8_wanted τ100 j0 x22 (fun τ102 x103 => ((x103 < x101) → (K τ102 0)) ∧ ((¬ x103 < x101) → (wp_X8_wanted τ102 j0 x22 (fun τ105 x106 => wp_X8_next τ105 j0 x22 (fun τ107 x108 => ((x108 < x106) → (K τ107 0)) ∧ ((¬ x108 < x106) → (wp_X8_next τ107 j0 x22 (fun τ110 x111 => wp_X8_given τ110 j0 x22 (fun τ112 x113 => (((x113 + 1) < x111) → (K τ112 0)) ∧ ((¬ (x113 + 1) < x111) → (wp_X8_hasRead τ112 j0 x22 (fun τ115 x116 => wp_X8_readable τ115 j0 x22 (fun τ117 x118 => wp_X8_given τ117 j0 x22 (fun τ119 x120 => ((x120 < (x116 + x118)) → (K τ119 0)) ∧ ((¬ x120 < (x116 + x118)) → (wp_X8_readable τ119 j0 x22 (fun τ122 x123 => ((0 ≤ x123) → (wp_X8_window τ122 j0 x22 (fun τ125 x126 => ((x126 < 8) → (K τ125 0)) ∧ ((¬ x126 < 8) → (wp_X8_window τ125 j0 x22 (fun τ128 x129 => ((256 < x129) → (K τ128 0)) ∧ ((¬ 256 < x129) → (wp_X8_timeout τ128 j0 x22 (fun τ131 x132 => ((x132 < 3) → (K τ131 0)) ∧ ((¬ x132 < 3) → (wp_X8_timeout τ131 j0 x22 (fun τ134 x135 => ((60 < x135) → (K τ134 0)) ∧ ((¬ 60 < x135) → (wp_X8_tries τ134 j0 x22 (fun τ137 x138 => ((x138 < 0) → (K τ137 0)) ∧ ((¬ x138 < 0) → (wp_X8_tries τ137 j0 x22 (fun τ140 x141 => ((6 < x141) → (K τ140 0)) ∧ ((¬ 6 < x141) → (wp_X8_tries τ140 j0 x22 (fun τ143 x144 => ∃ J145 : Int32 → Prop, (∀ (x146 : Int32), J145 x146 → (∃ J147 : Int32 → Prop, (∀ (x148 : Int32), J147 x148 → (((x146 = x148) → (∃ J150 : TS → Prop, (∀ (τ151 : TS), J150 τ151 → (∃ J152 : TS → Prop, (∀ (τ153 : TS), J152 τ153 → (∃ J154 : TS → Prop, (∀ (τ155 : TS), J154 τ155 → (wp_X8_timer τ155 j0 x22 (fun τ156 x157 => ∃ J158 : TS → Prop, (∀ (τ159 : TS), J158 τ159 → (wp_X8_measured τ159 j0 x22 (fun τ160 x161 => ((x161 < 0) → (wp_X8_recover τ160 j0 x22 (fun τ163 x164 => wp_X8_next τ163 j0 x22 (fun τ165 x166 => ((x166 ≤ x164) → (K τ165 0)) ∧ ((¬ x166 ≤ x164) → (wp_X8_wanted τ165 j0 x22 (fun τ168 x169 => wp_X8_holds τ168 j0 x22 x169 (fun τ170 x171 => ((x171 = 0) → (∀ x173 : Int32, x173 = x22 + 1 → I23 τ170 x173 ∧ u23 τ170 x173 < u23 τ21 x22)) ∧ ((¬ x171 = 0) → (K τ170 0)))))))))) ∧ ((¬ x161 < 0) → (wp_X8_measured τ160 j0 x22 (fun τ174 x175 => wp_X8_base τ174 j0 x22 (fun τ176 x177 => ∃ J178 : Prop, (J178  → (wp_X8_measured τ176 j0 x22 (fun τ179 x180 => wp_X8_next τ179 j0 x22 (fun τ181 x182 => ((x182 ≤ x180) → (K τ181 0)) ∧ ((¬ x182 ≤ x180) → (wp_X8_recover τ181 j0 x22 (fun τ184 x185 => wp_X8_next τ184 j0 x22 (fun τ186 x187 => ((x187 ≤ x185) → (K τ186 0)) ∧ ((¬ x187 ≤ x185) → (wp_X8_wanted τ186 j0 x22 (fun τ189 x190 => wp_X8_holds τ189 j0 x22 x190 (fun τ191 x192 => ((x192 = 0) → (∀ x194 : Int32, x194 = x22 + 1 → I23 τ191 x194 ∧ u23 τ191 x194 < u23 τ21 x22)) ∧ ((¬ x192 = 0) → (K τ191 0)))))))))))))) ∧ (((x177 ≤ x175) → J178) ∧ ((¬ x177 ≤ x175) → (((x99 = 1) → (K τ176 0)) ∧ ((¬ x99 = 1) → J178))))))))))) ∧ (((x157 < 0) → (J158 τ156)) ∧ ((¬ x157 < 0) → (wp_X8_timer τ156 j0 x22 (fun τ198 x199 => wp_X8_clock τ198 j0 (fun τ200 x201 => ((x201 < x199) → (J158 τ200)) ∧ ((¬ x201 < x199) → (K τ200 0)))))))))) ∧ (((¬ x99 = 0) → (J154 τ153)) ∧ ((x99 = 0) → (wp_X8_next τ153 j0 x22 (fun τ204 x205 => ((¬ x205 = 0) → (K τ204 0)) ∧ ((x205 = 0) → (J154 τ204)))))))) ∧ (((¬ x99 = 3) → (J152 τ151)) ∧ ((x99 = 3) → (wp_X8_timer τ151 j0 x22 (fun τ208 x209 => ((¬ x209 = (-1)) → (K τ208 0)) ∧ ((x209 = (-1)) → (J152 τ208)))))))) ∧ (((¬ x99 = 2) → (J150 τ143)) ∧ ((x99 = 2) → (wp_X8_base τ143 j0 x22 (fun τ212 x213 => wp_X8_given τ212 j0 x22 (fun τ214 x215 => ((¬ x213 = (x215 + 1)) → (K τ214 0)) ∧ ((x213 = (x215 + 1)) → (wp_X8_timer τ214 j0 x22 (fun τ217 x218 => ((¬ x218 = (-1)) → (K τ217 0)) ∧ ((x218 = (-1)) → (wp_X8_wanted τ217 j0 x22 (fun τ220 x221 => wp_X8_base τ220 j0 x22 (fun τ222 x223 => ((¬ x221 = x223) → (K τ222 0)) ∧ ((x221 = x223) → (J150 τ222)))))))))))))))) ∧ ((¬ x146 = x148) → (K τ143 0)))) ∧ (((¬ x99 = 3) → (J147 0)) ∧ ((x99 = 3) → (J147 1))))) ∧ (((¬ x144 = 6) → (J145 0)) ∧ ((x144 = 6) → (J145 1)))))))))))))))))))))))) ∧ ((¬ 0 ≤ x123) → (K τ122 0)))))))))))))))))))))))))
set_option maxHeartbeats 4000000 in
set_option maxRecDepth 100000 in
theorem c_L_isSound (w : WPar) (τ : TS) (j0 : Nat) (x1 : Int32) (K : TS → Int32 → Prop) (h0 : tp_is w j0 7) (hw : wp_L_isSound τ j0 x1 K) : MI w yL_isSound wsL_isSound 3 69 [.ref (w.1 j0), .int x1] τ K := by
  refine tp_enterZ (cc := cL_isSound) (maxL := 6) (own := RL) (by decide) rfl rfl (Nat.le_of_ble_eq_true rfl) (fun g C hR => ?_)
  show Zt w g τ (0, 0) 0 [(0, .ref (w.1 j0)), (1, .int x1)] []
  unfold wp_L_isSound at hw
  refine z_iconst C 0 (by decide) dL_isSound_0 ?_
  refine z_istore_n C [(2, .int 0), (0, .ref (w.1 j0)), (1, .int x1)] dL_isSound_1 (by decide) rfl ?_
  obtain ⟨I23, u23, hI23, hs23⟩ := hw
  have lp23 : ∀ (n23 : Nat) (τ21 : TS) (x22 : Int32), u23 τ21 x22 < n23 → I23 τ21 x22 → Zt w g τ21 (0, 0) 2 [(0, .ref (w.1 j0)), (1, .int x1), (2, .int x22)] [] := by
    intro n23
    induction n23 with
    | zero => intro τ21 x22 hlt23; exact absurd hlt23 (Nat.not_lt_zero _)
    | succ n23 ih23 =>
      intro τ21 x22 hlt23 hh23
      have hw := hs23 τ21 x22 hh23
      refine z_iload_n C 2 (by rfl) dL_isSound_2 ?_
      refine z_aload_n C 0 (by rfl) dL_isSound_3 ?_
      refine zv_i C (As := []) (bytes := cX8_connections) (maxL := 1) (F1 := 0) (L1 := 0) (c_X8_connections w _ j0 _ h0 hw) h0.2 (tE7 h0.1) rfl 0 gL_isSound_X8_connections rfl (by decide +kernel) ⟨Nat.le_of_ble_eq_true rfl, Nat.le_of_ble_eq_true rfl⟩ rfl (Nat.le_of_ble_eq_true rfl) ⟨Nat.le_of_ble_eq_true rfl, Nat.le_of_ble_eq_true rfl⟩ rfl dL_isSound_4 (fun x25 τ24 hw => ?_)
      refine z_icmp_ge (tgt := 337) C dL_isSound_7 (by decide) (fun c26 => ?_) (fun c26 => ?_)
      · have hw := hw.1 c26
        refine z_iconst C 0 (by decide) dL_isSound_337 ?_
        refine z_istore_n C [(2, .int 0), (0, .ref (w.1 j0)), (1, .int x1)] dL_isSound_338 (by decide) rfl ?_
        refine z_iconst C 0 (by decide) dL_isSound_339 ?_
        refine z_istore_n C [(3, .int 0), (2, .int 0), (0, .ref (w.1 j0)), (1, .int x1)] dL_isSound_340 (by decide) rfl ?_
        obtain ⟨I30, u30, hI30, hs30⟩ := hw
        have lp30 : ∀ (n30 : Nat) (τ27 : TS) (x28 : Int32) (x29 : Int32), u30 τ27 x28 x29 < n30 → I30 τ27 x28 x29 → Zt w g τ27 (0, 0) 341 [(0, .ref (w.1 j0)), (1, .int x1), (2, .int x28), (3, .int x29)] [] := by
          intro n30
          induction n30 with
          | zero => intro τ27 x28 x29 hlt30; exact absurd hlt30 (Nat.not_lt_zero _)
          | succ n30 ih30 =>
            intro τ27 x28 x29 hlt30 hh30
            have hw := hs30 τ27 x28 x29 hh30
            refine z_iload_n C 3 (by rfl) dL_isSound_341 ?_
            refine z_aload_n C 0 (by rfl) dL_isSound_342 ?_
            refine zv_i C (As := []) (bytes := cX8_links) (maxL := 1) (F1 := 0) (L1 := 0) (c_X8_links w _ j0 _ h0 hw) h0.2 (tE7 h0.1) rfl 0 gL_isSound_X8_links rfl (by decide +kernel) ⟨Nat.le_of_ble_eq_true rfl, Nat.le_of_ble_eq_true rfl⟩ rfl (Nat.le_of_ble_eq_true rfl) ⟨Nat.le_of_ble_eq_true rfl, Nat.le_of_ble_eq_true rfl⟩ rfl dL_isSound_343 (fun x32 τ31 hw => ?_)
            refine z_icmp_ge (tgt := 431) C dL_isSound_346 (by decide) (fun c33 => ?_) (fun c33 => ?_)
            · have hw := hw.1 c33
              refine z_iconst C 0 (by decide) dL_isSound_431 ?_
              refine z_istore_n C [(3, .int 0), (0, .ref (w.1 j0)), (1, .int x1), (2, .int x28)] dL_isSound_432 (by decide) rfl ?_
              obtain ⟨I36, u36, hI36, hs36⟩ := hw
              have lp36 : ∀ (n36 : Nat) (τ34 : TS) (x35 : Int32), u36 τ34 x35 < n36 → I36 τ34 x35 → Zt w g τ34 (0, 0) 433 [(0, .ref (w.1 j0)), (1, .int x1), (2, .int x28), (3, .int x35)] [] := by
                intro n36
                induction n36 with
                | zero => intro τ34 x35 hlt36; exact absurd hlt36 (Nat.not_lt_zero _)
                | succ n36 ih36 =>
                  intro τ34 x35 hlt36 hh36
                  have hw := hs36 τ34 x35 hh36
                  refine z_iload_n C 3 (by rfl) dL_isSound_433 ?_
                  refine z_iload_n C 1 (by rfl) dL_isSound_434 ?_
                  refine z_icmp_ge (tgt := 514) C dL_isSound_435 (by decide) (fun c37 => ?_) (fun c37 => ?_)
                  · have hw := hw.1 c37
                    refine z_aload_n C 0 (by rfl) dL_isSound_514 ?_
                    refine zv_i C (As := []) (bytes := cX8_underWay) (maxL := 3) (F1 := 0) (L1 := 0) (c_X8_underWay w _ j0 _ h0 hw) h0.2 (tE7 h0.1) rfl 0 gL_isSound_X8_underWay rfl (by decide +kernel) ⟨Nat.le_of_ble_eq_true rfl, Nat.le_of_ble_eq_true rfl⟩ rfl (Nat.le_of_ble_eq_true rfl) ⟨Nat.le_of_ble_eq_true rfl, Nat.le_of_ble_eq_true rfl⟩ rfl dL_isSound_515 (fun x39 τ38 hw => ?_)
                    refine z_iload_n C 2 (by rfl) dL_isSound_518 ?_
                    refine z_icmp_ne (tgt := 526) C dL_isSound_519 (by decide) (fun c40 => ?_) (fun c40 => ?_)
                    · have hw := hw.1 c40
                      refine z_iconst C 0 (by decide) dL_isSound_526 ?_
                      exact hR _ _ _ _ dL_isSound_527 rfl hw
                    · have hw := hw.2 c40
                      refine z_iconst C 1 (by decide) dL_isSound_522 ?_
                      refine z_goto (tgt := 527) C dL_isSound_523 (by decide) ?_
                      exact hR _ _ _ _ dL_isSound_527 rfl hw
                  · have hw := hw.2 c37
                    refine z_aload_n C 0 (by rfl) dL_isSound_438 ?_
                    refine z_iload_n C 3 (by rfl) dL_isSound_439 ?_
                    refine z_iconst C 0 (by decide) dL_isSound_440 ?_
                    refine zv_i C (As := [.int x35, .int 0]) (bytes := cX8_nextLink) (maxL := 3) (F1 := 2) (L1 := 47) (c_X8_nextLink w _ j0 x35 0 _ h0 hw) h0.2 (tE7 h0.1) rfl 2 gL_isSound_X8_nextLink rfl (by decide +kernel) ⟨Nat.le_of_ble_eq_true rfl, Nat.le_of_ble_eq_true rfl⟩ rfl (Nat.le_of_ble_eq_true rfl) ⟨Nat.le_of_ble_eq_true rfl, Nat.le_of_ble_eq_true rfl⟩ rfl dL_isSound_441 (fun x42 τ41 hw => ?_)
                    refine z_istore C [(4, .int x42), (0, .ref (w.1 j0)), (1, .int x1), (2, .int x28), (3, .int x35)] dL_isSound_444 (by decide) rfl ?_
                    refine z_iload C 0 (by rfl) dL_isSound_446 ?_
                    obtain ⟨J43, hJ43, hw⟩ := hw
                    have jn43 : ∀ (x44 : Int32), J43 x44 → Zt w g τ41 (0, 0) 456 [(0, .ref (w.1 j0)), (1, .int x1), (2, .int x28), (3, .int x35), (4, .int x42)] [.int x44] := by
                      intro x44 hj43
                      have hw := hJ43 x44 hj43
                      refine z_iload_n C 3 (by rfl) dL_isSound_456 ?_
                      obtain ⟨J45, hJ45, hw⟩ := hw
                      have jn45 : ∀ (τ46 : TS) (x47 : Int32), J45 τ46 x47 → Zt w g τ46 (0, 0) 474 [(0, .ref (w.1 j0)), (1, .int x1), (2, .int x28), (3, .int x35), (4, .int x42)] [.int x47, .int x44] := by
                        intro τ46 x47 hj45
                        have hw := hJ45 τ46 x47 hj45
                        refine z_icmp_ne (tgt := 506) C dL_isSound_474 (by decide) (fun c48 => ?_) (fun c48 => ?_)
                        · have hw := hw.1 c48
                          refine z_iconst C 0 (by decide) dL_isSound_506 ?_
                          exact hR _ _ _ _ dL_isSound_507 rfl hw
                        · have hw := hw.2 c48
                          refine z_aload_n C 0 (by rfl) dL_isSound_477 ?_
                          refine z_iload_n C 3 (by rfl) dL_isSound_478 ?_
                          refine z_iconst C 0 (by decide) dL_isSound_479 ?_
                          refine zv_i C (As := [.int x35, .int 0]) (bytes := cX8_distance) (maxL := 3) (F1 := 1) (L1 := 21) (c_X8_distance w _ j0 x35 0 _ h0 hw) h0.2 (tE7 h0.1) rfl 2 gL_isSound_X8_distance rfl (by decide +kernel) ⟨Nat.le_of_ble_eq_true rfl, Nat.le_of_ble_eq_true rfl⟩ rfl (Nat.le_of_ble_eq_true rfl) ⟨Nat.le_of_ble_eq_true rfl, Nat.le_of_ble_eq_true rfl⟩ rfl dL_isSound_480 (fun x50 τ49 hw => ?_)
                          refine z_aload_n C 0 (by rfl) dL_isSound_483 ?_
                          refine z_iconst C 0 (by decide) dL_isSound_484 ?_
                          refine z_iload_n C 3 (by rfl) dL_isSound_485 ?_
                          refine zv_i C (As := [.int 0, .int x35]) (bytes := cX8_distance) (maxL := 3) (F1 := 1) (L1 := 21) (c_X8_distance w _ j0 0 x35 _ h0 hw) h0.2 (tE7 h0.1) rfl 2 gL_isSound_X8_distance rfl (by decide +kernel) ⟨Nat.le_of_ble_eq_true rfl, Nat.le_of_ble_eq_true rfl⟩ rfl (Nat.le_of_ble_eq_true rfl) ⟨Nat.le_of_ble_eq_true rfl, Nat.le_of_ble_eq_true rfl⟩ rfl dL_isSound_486 (fun x52 τ51 hw => ?_)
                          refine z_icmp_ne (tgt := 506) C dL_isSound_489 (by decide) (fun c53 => ?_) (fun c53 => ?_)
                          · have hw := hw.1 c53
                            refine z_iconst C 0 (by decide) dL_isSound_506 ?_
                            exact hR _ _ _ _ dL_isSound_507 rfl hw
                          · have hw := hw.2 c53
                            refine z_iload C 4 (by rfl) dL_isSound_492 ?_
                            refine z_if_lt (tgt := 508) C dL_isSound_494 (by decide) (fun c54 => ?_) (fun c54 => ?_)
                            · have hw := hw.1 c54
                              obtain ⟨x55, ex55⟩ : ∃ z : Int32, z = x35 + 1 := ⟨_, rfl⟩
                              have hw := hw x55 ex55
                              refine z_iinc C 3 x55 [(3, .int x55), (0, .ref (w.1 j0)), (1, .int x1), (2, .int x28), (4, .int x42)] dL_isSound_508 (by rfl) (by rw [ex55]; rfl) (by decide) rfl ?_
                              refine z_goto (tgt := 433) C dL_isSound_511 (by decide) ?_
                              refine z_sub [1, 2, 3, 0] [(0, .ref (w.1 j0)), (1, .int x1), (2, .int x28), (3, .int x55)] rfl ?_
                              exact ih36 τ51 x55 (Nat.lt_of_lt_of_le hw.2 (Nat.le_of_lt_succ hlt36)) hw.1
                            · have hw := hw.2 c54
                              refine z_aload_n C 0 (by rfl) dL_isSound_497 ?_
                              refine z_iload C 4 (by rfl) dL_isSound_498 ?_
                              refine zv_i C (As := [.int x42]) (bytes := cX8_isUp) (maxL := 2) (F1 := 1) (L1 := 21) (c_X8_isUp w _ j0 x42 _ h0 hw) h0.2 (tE7 h0.1) rfl 1 gL_isSound_X8_isUp rfl (by decide +kernel) ⟨Nat.le_of_ble_eq_true rfl, Nat.le_of_ble_eq_true rfl⟩ rfl (Nat.le_of_ble_eq_true rfl) ⟨Nat.le_of_ble_eq_true rfl, Nat.le_of_ble_eq_true rfl⟩ rfl dL_isSound_500 (fun x57 τ56 hw => ?_)
                              refine z_if_ne (tgt := 508) C dL_isSound_503 (by decide) (fun c58 => ?_) (fun c58 => ?_)
                              · have hw := hw.1 c58
                                obtain ⟨x59, ex59⟩ : ∃ z : Int32, z = x35 + 1 := ⟨_, rfl⟩
                                have hw := hw x59 ex59
                                refine z_iinc C 3 x59 [(3, .int x59), (0, .ref (w.1 j0)), (1, .int x1), (2, .int x28), (4, .int x42)] dL_isSound_508 (by rfl) (by rw [ex59]; rfl) (by decide) rfl ?_
                                refine z_goto (tgt := 433) C dL_isSound_511 (by decide) ?_
                                refine z_sub [1, 2, 3, 0] [(0, .ref (w.1 j0)), (1, .int x1), (2, .int x28), (3, .int x59)] rfl ?_
                                exact ih36 τ56 x59 (Nat.lt_of_lt_of_le hw.2 (Nat.le_of_lt_succ hlt36)) hw.1
                              · have hw := hw.2 c58
                                refine z_iconst C 0 (by decide) dL_isSound_506 ?_
                                exact hR _ _ _ _ dL_isSound_507 rfl hw
                      obtain ⟨J60, hJ60, hw⟩ := hw
                      have jn60 : ∀ (τ61 : TS), J60 τ61 → Zt w g τ61 (0, 0) 469 [(0, .ref (w.1 j0)), (1, .int x1), (2, .int x28), (3, .int x35), (4, .int x42)] [.int x44] := by
                        intro τ61 hj60
                        have hw := hJ60 τ61 hj60
                        refine z_iconst C 1 (by decide) dL_isSound_469 ?_
                        refine z_goto (tgt := 474) C dL_isSound_470 (by decide) ?_
                        exact jn45 τ61 1 hw
                      refine z_if_eq (tgt := 469) C dL_isSound_457 (by decide) (fun c62 => ?_) (fun c62 => ?_)
                      · have hw := hw.1 c62
                        exact jn60 τ41 hw
                      · have hw := hw.2 c62
                        refine z_aload_n C 0 (by rfl) dL_isSound_460 ?_
                        refine z_iload_n C 3 (by rfl) dL_isSound_461 ?_
                        refine z_iconst C 0 (by decide) dL_isSound_462 ?_
                        refine zv_i C (As := [.int x35, .int 0]) (bytes := cX8_distance) (maxL := 3) (F1 := 1) (L1 := 21) (c_X8_distance w _ j0 x35 0 _ h0 hw) h0.2 (tE7 h0.1) rfl 2 gL_isSound_X8_distance rfl (by decide +kernel) ⟨Nat.le_of_ble_eq_true rfl, Nat.le_of_ble_eq_true rfl⟩ rfl (Nat.le_of_ble_eq_true rfl) ⟨Nat.le_of_ble_eq_true rfl, Nat.le_of_ble_eq_true rfl⟩ rfl dL_isSound_463 (fun x64 τ63 hw => ?_)
                        refine z_if_ge (tgt := 473) C dL_isSound_466 (by decide) (fun c65 => ?_) (fun c65 => ?_)
                        · have hw := hw.1 c65
                          refine z_iconst C 0 (by decide) dL_isSound_473 ?_
                          exact jn45 τ63 0 hw
                        · have hw := hw.2 c65
                          exact jn60 τ63 hw
                    refine z_if_ge (tgt := 455) C dL_isSound_448 (by decide) (fun c66 => ?_) (fun c66 => ?_)
                    · have hw := hw.1 c66
                      refine z_iconst C 0 (by decide) dL_isSound_455 ?_
                      refine z_sub [1, 2, 3, 4, 0] [(0, .ref (w.1 j0)), (1, .int x1), (2, .int x28), (3, .int x35), (4, .int x42)] rfl ?_
                      exact jn43 0 hw
                    · have hw := hw.2 c66
                      refine z_iconst C 1 (by decide) dL_isSound_451 ?_
                      refine z_goto (tgt := 456) C dL_isSound_452 (by decide) ?_
                      refine z_sub [1, 2, 3, 4, 0] [(0, .ref (w.1 j0)), (1, .int x1), (2, .int x28), (3, .int x35), (4, .int x42)] rfl ?_
                      exact jn43 1 hw
              refine z_sub [1, 2, 3, 0] [(0, .ref (w.1 j0)), (1, .int x1), (2, .int x28), (3, .int 0)] rfl ?_
              exact lp36 _ τ31 0 (Nat.lt_succ_self _) hI36
            · have hw := hw.2 c33
              refine z_iconst C 0 (by decide) dL_isSound_349 ?_
              refine z_istore C [(4, .int 0), (0, .ref (w.1 j0)), (1, .int x1), (2, .int x28), (3, .int x29)] dL_isSound_350 (by decide) rfl ?_
              obtain ⟨I70, u70, hI70, hs70⟩ := hw
              have lp70 : ∀ (n70 : Nat) (τ67 : TS) (x68 : Int32) (x69 : Int32), u70 τ67 x68 x69 < n70 → I70 τ67 x68 x69 → Zt w g τ67 (0, 0) 352 [(0, .ref (w.1 j0)), (1, .int x1), (2, .int x68), (3, .int x29), (4, .int x69)] [] := by
                intro n70
                induction n70 with
                | zero => intro τ67 x68 x69 hlt70; exact absurd hlt70 (Nat.not_lt_zero _)
                | succ n70 ih70 =>
                  intro τ67 x68 x69 hlt70 hh70
                  have hw := hs70 τ67 x68 x69 hh70
                  refine z_iload C 4 (by rfl) dL_isSound_352 ?_
                  refine z_iconst C 2 (by decide) dL_isSound_354 ?_
                  refine z_icmp_ge (tgt := 425) C dL_isSound_355 (by decide) (fun c71 => ?_) (fun c71 => ?_)
                  · have hw := hw.1 c71
                    obtain ⟨x72, ex72⟩ : ∃ z : Int32, z = x29 + 1 := ⟨_, rfl⟩
                    have hw := hw x72 ex72
                    refine z_iinc C 3 x72 [(3, .int x72), (0, .ref (w.1 j0)), (1, .int x1), (2, .int x68), (4, .int x69)] dL_isSound_425 (by rfl) (by rw [ex72]; rfl) (by decide) rfl ?_
                    refine z_goto (tgt := 341) C dL_isSound_428 (by decide) ?_
                    refine z_sub [1, 2, 3, 0] [(0, .ref (w.1 j0)), (1, .int x1), (2, .int x68), (3, .int x72)] rfl ?_
                    exact ih30 τ67 x68 x72 (Nat.lt_of_lt_of_le hw.2 (Nat.le_of_lt_succ hlt30)) hw.1
                  · have hw := hw.2 c71
                    refine z_aload_n C 0 (by rfl) dL_isSound_358 ?_
                    refine z_iload_n C 3 (by rfl) dL_isSound_359 ?_
                    refine z_iload C 4 (by rfl) dL_isSound_360 ?_
                    refine zv_i C (As := [.int x29, .int x69]) (bytes := cX8_queued) (maxL := 3) (F1 := 2) (L1 := 43) (c_X8_queued w _ j0 x29 x69 _ h0 hw) h0.2 (tE7 h0.1) rfl 2 gL_isSound_X8_queued rfl (by decide +kernel) ⟨Nat.le_of_ble_eq_true rfl, Nat.le_of_ble_eq_true rfl⟩ rfl (Nat.le_of_ble_eq_true rfl) ⟨Nat.le_of_ble_eq_true rfl, Nat.le_of_ble_eq_true rfl⟩ rfl dL_isSound_362 (fun x74 τ73 hw => ?_)
                    refine z_aload_n C 0 (by rfl) dL_isSound_365 ?_
                    refine z_iload_n C 3 (by rfl) dL_isSound_366 ?_
                    refine z_iload C 4 (by rfl) dL_isSound_367 ?_
                    refine zv_i C (As := [.int x29, .int x69]) (bytes := cX8_flying) (maxL := 3) (F1 := 2) (L1 := 43) (c_X8_flying w _ j0 x29 x69 _ h0 hw) h0.2 (tE7 h0.1) rfl 2 gL_isSound_X8_flying rfl (by decide +kernel) ⟨Nat.le_of_ble_eq_true rfl, Nat.le_of_ble_eq_true rfl⟩ rfl (Nat.le_of_ble_eq_true rfl) ⟨Nat.le_of_ble_eq_true rfl, Nat.le_of_ble_eq_true rfl⟩ rfl dL_isSound_369 (fun x76 τ75 hw => ?_)
                    refine z_iadd C dL_isSound_372 ?_
                    refine z_top (fun x77 ex77 => ?_)
                    have hw := hw x77 ex77
                    refine z_istore C [(5, .int x77), (0, .ref (w.1 j0)), (1, .int x1), (2, .int x68), (3, .int x29), (4, .int x69)] dL_isSound_373 (by decide) rfl ?_
                    refine z_aload_n C 1 (by rfl) dL_isSound_375 ?_
                    refine z_iload_n C 4 (by rfl) dL_isSound_376 ?_
                    refine zv_i C (As := [.int x29]) (bytes := cX8_isUp) (maxL := 2) (F1 := 1) (L1 := 21) (c_X8_isUp w _ j0 x29 _ h0 hw) h0.2 (tE7 h0.1) rfl 1 gL_isSound_X8_isUp rfl (by decide +kernel) ⟨Nat.le_of_ble_eq_true rfl, Nat.le_of_ble_eq_true rfl⟩ rfl (Nat.le_of_ble_eq_true rfl) ⟨Nat.le_of_ble_eq_true rfl, Nat.le_of_ble_eq_true rfl⟩ rfl dL_isSound_377 (fun x79 τ78 hw => ?_)
                    refine z_if_ne (tgt := 388) C dL_isSound_380 (by decide) (fun c80 => ?_) (fun c80 => ?_)
                    · have hw := hw.1 c80
                      refine z_aload_n C 1 (by rfl) dL_isSound_388 ?_
                      refine z_iload_n C 4 (by rfl) dL_isSound_389 ?_
                      refine z_iload C 5 (by rfl) dL_isSound_390 ?_
                      refine zv_i C (As := [.int x29, .int x69]) (bytes := cX8_queued) (maxL := 3) (F1 := 2) (L1 := 43) (c_X8_queued w _ j0 x29 x69 _ h0 hw) h0.2 (tE7 h0.1) rfl 2 gL_isSound_X8_queued rfl (by decide +kernel) ⟨Nat.le_of_ble_eq_true rfl, Nat.le_of_ble_eq_true rfl⟩ rfl (Nat.le_of_ble_eq_true rfl) ⟨Nat.le_of_ble_eq_true rfl, Nat.le_of_ble_eq_true rfl⟩ rfl dL_isSound_392 (fun x82 τ81 hw => ?_)
                      refine z_bipush C 20 (by decide) dL_isSound_395 ?_
                      refine z_icmp_gt (tgt := 412) C dL_isSound_397 (by decide) (fun c83 => ?_) (fun c83 => ?_)
                      · have hw := hw.1 c83
                        refine z_iconst C 0 (by decide) dL_isSound_412 ?_
                        exact hR _ _ _ _ dL_isSound_413 rfl hw
                      · have hw := hw.2 c83
                        refine z_aload_n C 1 (by rfl) dL_isSound_400 ?_
                        refine z_iload_n C 4 (by rfl) dL_isSound_401 ?_
                        refine z_iload C 5 (by rfl) dL_isSound_402 ?_
                        refine zv_i C (As := [.int x29, .int x69]) (bytes := cX8_flying) (maxL := 3) (F1 := 2) (L1 := 43) (c_X8_flying w _ j0 x29 x69 _ h0 hw) h0.2 (tE7 h0.1) rfl 2 gL_isSound_X8_flying rfl (by decide +kernel) ⟨Nat.le_of_ble_eq_true rfl, Nat.le_of_ble_eq_true rfl⟩ rfl (Nat.le_of_ble_eq_true rfl) ⟨Nat.le_of_ble_eq_true rfl, Nat.le_of_ble_eq_true rfl⟩ rfl dL_isSound_404 (fun x85 τ84 hw => ?_)
                        refine z_bipush C 9 (by decide) dL_isSound_407 ?_
                        refine z_icmp_le (tgt := 414) C dL_isSound_409 (by decide) (fun c86 => ?_) (fun c86 => ?_)
                        · have hw := hw.1 c86
                          refine z_iload_n C 3 (by rfl) dL_isSound_414 ?_
                          refine z_iload C 0 (by rfl) dL_isSound_415 ?_
                          refine z_iadd C dL_isSound_417 ?_
                          refine z_top (fun x87 ex87 => ?_)
                          have hw := hw x87 ex87
                          refine z_istore_n C [(2, .int x87), (5, .int x77), (0, .ref (w.1 j0)), (1, .int x1), (3, .int x29), (4, .int x69)] dL_isSound_418 (by decide) rfl ?_
                          obtain ⟨x88, ex88⟩ : ∃ z : Int32, z = x69 + 1 := ⟨_, rfl⟩
                          have hw := hw x88 ex88
                          refine z_iinc C 5 x88 [(4, .int x88), (2, .int x87), (5, .int x77), (0, .ref (w.1 j0)), (1, .int x1), (3, .int x29)] dL_isSound_419 (by rfl) (by rw [ex88]; rfl) (by decide) rfl ?_
                          refine z_goto (tgt := 352) C dL_isSound_422 (by decide) ?_
                          refine z_sub [3, 4, 1, 5, 0] [(0, .ref (w.1 j0)), (1, .int x1), (2, .int x87), (3, .int x29), (4, .int x88)] rfl ?_
                          exact ih70 τ84 x87 x88 (Nat.lt_of_lt_of_le hw.2 (Nat.le_of_lt_succ hlt70)) hw.1
                        · have hw := hw.2 c86
                          refine z_iconst C 0 (by decide) dL_isSound_412 ?_
                          exact hR _ _ _ _ dL_isSound_413 rfl hw
                    · have hw := hw.2 c80
                      refine z_iload C 0 (by rfl) dL_isSound_383 ?_
                      refine z_if_gt (tgt := 412) C dL_isSound_385 (by decide) (fun c89 => ?_) (fun c89 => ?_)
                      · have hw := hw.1 c89
                        refine z_iconst C 0 (by decide) dL_isSound_412 ?_
                        exact hR _ _ _ _ dL_isSound_413 rfl hw
                      · have hw := hw.2 c89
                        refine z_aload_n C 1 (by rfl) dL_isSound_388 ?_
                        refine z_iload_n C 4 (by rfl) dL_isSound_389 ?_
                        refine z_iload C 5 (by rfl) dL_isSound_390 ?_
                        refine zv_i C (As := [.int x29, .int x69]) (bytes := cX8_queued) (maxL := 3) (F1 := 2) (L1 := 43) (c_X8_queued w _ j0 x29 x69 _ h0 hw) h0.2 (tE7 h0.1) rfl 2 gL_isSound_X8_queued rfl (by decide +kernel) ⟨Nat.le_of_ble_eq_true rfl, Nat.le_of_ble_eq_true rfl⟩ rfl (Nat.le_of_ble_eq_true rfl) ⟨Nat.le_of_ble_eq_true rfl, Nat.le_of_ble_eq_true rfl⟩ rfl dL_isSound_392 (fun x91 τ90 hw => ?_)
                        refine z_bipush C 20 (by decide) dL_isSound_395 ?_
                        refine z_icmp_gt (tgt := 412) C dL_isSound_397 (by decide) (fun c92 => ?_) (fun c92 => ?_)
                        · have hw := hw.1 c92
                          refine z_iconst C 0 (by decide) dL_isSound_412 ?_
                          exact hR _ _ _ _ dL_isSound_413 rfl hw
                        · have hw := hw.2 c92
                          refine z_aload_n C 1 (by rfl) dL_isSound_400 ?_
                          refine z_iload_n C 4 (by rfl) dL_isSound_401 ?_
                          refine z_iload C 5 (by rfl) dL_isSound_402 ?_
                          refine zv_i C (As := [.int x29, .int x69]) (bytes := cX8_flying) (maxL := 3) (F1 := 2) (L1 := 43) (c_X8_flying w _ j0 x29 x69 _ h0 hw) h0.2 (tE7 h0.1) rfl 2 gL_isSound_X8_flying rfl (by decide +kernel) ⟨Nat.le_of_ble_eq_true rfl, Nat.le_of_ble_eq_true rfl⟩ rfl (Nat.le_of_ble_eq_true rfl) ⟨Nat.le_of_ble_eq_true rfl, Nat.le_of_ble_eq_true rfl⟩ rfl dL_isSound_404 (fun x94 τ93 hw => ?_)
                          refine z_bipush C 9 (by decide) dL_isSound_407 ?_
                          refine z_icmp_le (tgt := 414) C dL_isSound_409 (by decide) (fun c95 => ?_) (fun c95 => ?_)
                          · have hw := hw.1 c95
                            refine z_iload_n C 3 (by rfl) dL_isSound_414 ?_
                            refine z_iload C 0 (by rfl) dL_isSound_415 ?_
                            refine z_iadd C dL_isSound_417 ?_
                            refine z_top (fun x96 ex96 => ?_)
                            have hw := hw x96 ex96
                            refine z_istore_n C [(2, .int x96), (5, .int x77), (0, .ref (w.1 j0)), (1, .int x1), (3, .int x29), (4, .int x69)] dL_isSound_418 (by decide) rfl ?_
                            obtain ⟨x97, ex97⟩ : ∃ z : Int32, z = x69 + 1 := ⟨_, rfl⟩
                            have hw := hw x97 ex97
                            refine z_iinc C 5 x97 [(4, .int x97), (2, .int x96), (5, .int x77), (0, .ref (w.1 j0)), (1, .int x1), (3, .int x29)] dL_isSound_419 (by rfl) (by rw [ex97]; rfl) (by decide) rfl ?_
                            refine z_goto (tgt := 352) C dL_isSound_422 (by decide) ?_
                            refine z_sub [3, 4, 1, 5, 0] [(0, .ref (w.1 j0)), (1, .int x1), (2, .int x96), (3, .int x29), (4, .int x97)] rfl ?_
                            exact ih70 τ93 x96 x97 (Nat.lt_of_lt_of_le hw.2 (Nat.le_of_lt_succ hlt70)) hw.1
                          · have hw := hw.2 c95
                            refine z_iconst C 0 (by decide) dL_isSound_412 ?_
                            exact hR _ _ _ _ dL_isSound_413 rfl hw
              refine z_sub [1, 2, 3, 4, 0] [(0, .ref (w.1 j0)), (1, .int x1), (2, .int x28), (3, .int x29), (4, .int 0)] rfl ?_
              exact lp70 _ τ31 x28 0 (Nat.lt_succ_self _) hI70
        refine z_sub [2, 3, 1, 0] [(0, .ref (w.1 j0)), (1, .int x1), (2, .int 0), (3, .int 0)] rfl ?_
        exact lp30 _ τ24 0 0 (Nat.lt_succ_self _) hI30
      · have hw := hw.2 c26
        refine z_aload_n C 0 (by rfl) dL_isSound_10 ?_
        refine z_iload_n C 2 (by rfl) dL_isSound_11 ?_
        refine zv_i C (As := [.int x22]) (bytes := cX8_stateOf) (maxL := 2) (F1 := 2) (L1 := 42) (c_X8_stateOf w _ j0 x22 _ h0 hw) h0.2 (tE7 h0.1) rfl 1 gL_isSound_X8_stateOf rfl (by decide +kernel) ⟨Nat.le_of_ble_eq_true rfl, Nat.le_of_ble_eq_true rfl⟩ rfl (Nat.le_of_ble_eq_true rfl) ⟨Nat.le_of_ble_eq_true rfl, Nat.le_of_ble_eq_true rfl⟩ rfl dL_isSound_12 (fun x99 τ98 hw => ?_)
        refine z_istore_n C [(3, .int x99), (0, .ref (w.1 j0)), (1, .int x1), (2, .int x22)] dL_isSound_15 (by decide) rfl ?_
        refine z_aload_n C 1 (by rfl) dL_isSound_16 ?_
        refine z_iload_n C 3 (by rfl) dL_isSound_17 ?_
        refine zv_i C (As := [.int x22]) (bytes := cX8_base) (maxL := 2) (F1 := 2) (L1 := 42) (c_X8_base w _ j0 x22 _ h0 hw) h0.2 (tE7 h0.1) rfl 1 gL_isSound_X8_base rfl (by decide +kernel) ⟨Nat.le_of_ble_eq_true rfl, Nat.le_of_ble_eq_true rfl⟩ rfl (Nat.le_of_ble_eq_true rfl) ⟨Nat.le_of_ble_eq_true rfl, Nat.le_of_ble_eq_true rfl⟩ rfl dL_isSound_18 (fun x101 τ100 hw => ?_)
        refine z_aload_n C 1 (by rfl) dL_isSound_21 ?_
        refine z_iload_n C 3 (by rfl) dL_isSound_22 ?_
        refine zv_i C (As := [.int x22]) (bytes := cX8_wanted) (maxL := 2) (F1 := 1) (L1 := 21) (c_X8_wanted w _ j0 x22 _ h0 hw) h0.2 (tE7 h0.1) rfl 1 gL_isSound_X8_wanted rfl (by decide +kernel) ⟨Nat.le_of_ble_eq_true rfl, Nat.le_of_ble_eq_true rfl⟩ rfl (Nat.le_of_ble_eq_true rfl) ⟨Nat.le_of_ble_eq_true rfl, Nat.le_of_ble_eq_true rfl⟩ rfl dL_isSound_23 (fun x103 τ102 hw => ?_)
        refine z_icmp_gt (tgt := 84) C dL_isSound_26 (by decide) (fun c104 => ?_) (fun c104 => ?_)
        · have hw := hw.1 c104
          refine z_iconst C 0 (by decide) dL_isSound_84 ?_
          exact hR _ _ _ _ dL_isSound_85 rfl hw
        · have hw := hw.2 c104
          refine z_aload_n C 1 (by rfl) dL_isSound_29 ?_
          refine z_iload_n C 3 (by rfl) dL_isSound_30 ?_
          refine zv_i C (As := [.int x22]) (bytes := cX8_wanted) (maxL := 2) (F1 := 1) (L1 := 21) (c_X8_wanted w _ j0 x22 _ h0 hw) h0.2 (tE7 h0.1) rfl 1 gL_isSound_X8_wanted rfl (by decide +kernel) ⟨Nat.le_of_ble_eq_true rfl, Nat.le_of_ble_eq_true rfl⟩ rfl (Nat.le_of_ble_eq_true rfl) ⟨Nat.le_of_ble_eq_true rfl, Nat.le_of_ble_eq_true rfl⟩ rfl dL_isSound_31 (fun x106 τ105 hw => ?_)
          refine z_aload_n C 1 (by rfl) dL_isSound_34 ?_
          refine z_iload_n C 3 (by rfl) dL_isSound_35 ?_
          refine zv_i C (As := [.int x22]) (bytes := cX8_next) (maxL := 2) (F1 := 2) (L1 := 42) (c_X8_next w _ j0 x22 _ h0 hw) h0.2 (tE7 h0.1) rfl 1 gL_isSound_X8_next rfl (by decide +kernel) ⟨Nat.le_of_ble_eq_true rfl, Nat.le_of_ble_eq_true rfl⟩ rfl (Nat.le_of_ble_eq_true rfl) ⟨Nat.le_of_ble_eq_true rfl, Nat.le_of_ble_eq_true rfl⟩ rfl dL_isSound_36 (fun x108 τ107 hw => ?_)
          refine z_icmp_gt (tgt := 84) C dL_isSound_39 (by decide) (fun c109 => ?_) (fun c109 => ?_)
          · have hw := hw.1 c109
            refine z_iconst C 0 (by decide) dL_isSound_84 ?_
            exact hR _ _ _ _ dL_isSound_85 rfl hw
          · have hw := hw.2 c109
            refine z_aload_n C 1 (by rfl) dL_isSound_42 ?_
            refine z_iload_n C 3 (by rfl) dL_isSound_43 ?_
            refine zv_i C (As := [.int x22]) (bytes := cX8_next) (maxL := 2) (F1 := 2) (L1 := 42) (c_X8_next w _ j0 x22 _ h0 hw) h0.2 (tE7 h0.1) rfl 1 gL_isSound_X8_next rfl (by decide +kernel) ⟨Nat.le_of_ble_eq_true rfl, Nat.le_of_ble_eq_true rfl⟩ rfl (Nat.le_of_ble_eq_true rfl) ⟨Nat.le_of_ble_eq_true rfl, Nat.le_of_ble_eq_true rfl⟩ rfl dL_isSound_44 (fun x111 τ110 hw => ?_)
            refine z_aload_n C 1 (by rfl) dL_isSound_47 ?_
            refine z_iload_n C 3 (by rfl) dL_isSound_48 ?_
            refine zv_i C (As := [.int x22]) (bytes := cX8_given) (maxL := 2) (F1 := 2) (L1 := 42) (c_X8_given w _ j0 x22 _ h0 hw) h0.2 (tE7 h0.1) rfl 1 gL_isSound_X8_given rfl (by decide +kernel) ⟨Nat.le_of_ble_eq_true rfl, Nat.le_of_ble_eq_true rfl⟩ rfl (Nat.le_of_ble_eq_true rfl) ⟨Nat.le_of_ble_eq_true rfl, Nat.le_of_ble_eq_true rfl⟩ rfl dL_isSound_49 (fun x113 τ112 hw => ?_)
            refine z_iconst C 1 (by decide) dL_isSound_52 ?_
            refine z_iadd C dL_isSound_53 ?_
            refine z_icmp_gt (tgt := 84) C dL_isSound_54 (by decide) (fun c114 => ?_) (fun c114 => ?_)
            · have hw := hw.1 c114
              refine z_iconst C 0 (by decide) dL_isSound_84 ?_
              exact hR _ _ _ _ dL_isSound_85 rfl hw
            · have hw := hw.2 c114
              refine z_aload_n C 1 (by rfl) dL_isSound_57 ?_
              refine z_iload_n C 3 (by rfl) dL_isSound_58 ?_
              refine zv_i C (As := [.int x22]) (bytes := cX8_hasRead) (maxL := 2) (F1 := 1) (L1 := 21) (c_X8_hasRead w _ j0 x22 _ h0 hw) h0.2 (tE7 h0.1) rfl 1 gL_isSound_X8_hasRead rfl (by decide +kernel) ⟨Nat.le_of_ble_eq_true rfl, Nat.le_of_ble_eq_true rfl⟩ rfl (Nat.le_of_ble_eq_true rfl) ⟨Nat.le_of_ble_eq_true rfl, Nat.le_of_ble_eq_true rfl⟩ rfl dL_isSound_59 (fun x116 τ115 hw => ?_)
              refine z_aload_n C 1 (by rfl) dL_isSound_62 ?_
              refine z_iload_n C 3 (by rfl) dL_isSound_63 ?_
              refine zv_i C (As := [.int x22]) (bytes := cX8_readable) (maxL := 2) (F1 := 2) (L1 := 33) (c_X8_readable w _ j0 x22 _ h0 hw) h0.2 (tE7 h0.1) rfl 1 gL_isSound_X8_readable rfl (by decide +kernel) ⟨Nat.le_of_ble_eq_true rfl, Nat.le_of_ble_eq_true rfl⟩ rfl (Nat.le_of_ble_eq_true rfl) ⟨Nat.le_of_ble_eq_true rfl, Nat.le_of_ble_eq_true rfl⟩ rfl dL_isSound_64 (fun x118 τ117 hw => ?_)
              refine z_iadd C dL_isSound_67 ?_
              refine z_aload_n C 1 (by rfl) dL_isSound_68 ?_
              refine z_iload_n C 3 (by rfl) dL_isSound_69 ?_
              refine zv_i C (As := [.int x22]) (bytes := cX8_given) (maxL := 2) (F1 := 2) (L1 := 42) (c_X8_given w _ j0 x22 _ h0 hw) h0.2 (tE7 h0.1) rfl 1 gL_isSound_X8_given rfl (by decide +kernel) ⟨Nat.le_of_ble_eq_true rfl, Nat.le_of_ble_eq_true rfl⟩ rfl (Nat.le_of_ble_eq_true rfl) ⟨Nat.le_of_ble_eq_true rfl, Nat.le_of_ble_eq_true rfl⟩ rfl dL_isSound_70 (fun x120 τ119 hw => ?_)
              refine z_icmp_gt (tgt := 84) C dL_isSound_73 (by decide) (fun c121 => ?_) (fun c121 => ?_)
              · have hw := hw.1 c121
                refine z_iconst C 0 (by decide) dL_isSound_84 ?_
                exact hR _ _ _ _ dL_isSound_85 rfl hw
              · have hw := hw.2 c121
                refine z_aload_n C 1 (by rfl) dL_isSound_76 ?_
                refine z_iload_n C 3 (by rfl) dL_isSound_77 ?_
                refine zv_i C (As := [.int x22]) (bytes := cX8_readable) (maxL := 2) (F1 := 2) (L1 := 33) (c_X8_readable w _ j0 x22 _ h0 hw) h0.2 (tE7 h0.1) rfl 1 gL_isSound_X8_readable rfl (by decide +kernel) ⟨Nat.le_of_ble_eq_true rfl, Nat.le_of_ble_eq_true rfl⟩ rfl (Nat.le_of_ble_eq_true rfl) ⟨Nat.le_of_ble_eq_true rfl, Nat.le_of_ble_eq_true rfl⟩ rfl dL_isSound_78 (fun x123 τ122 hw => ?_)
                refine z_if_ge (tgt := 86) C dL_isSound_81 (by decide) (fun c124 => ?_) (fun c124 => ?_)
                · have hw := hw.1 c124
                  refine z_aload_n C 1 (by rfl) dL_isSound_86 ?_
                  refine z_iload_n C 3 (by rfl) dL_isSound_87 ?_
                  refine zv_i C (As := [.int x22]) (bytes := cX8_window) (maxL := 2) (F1 := 2) (L1 := 42) (c_X8_window w _ j0 x22 _ h0 hw) h0.2 (tE7 h0.1) rfl 1 gL_isSound_X8_window rfl (by decide +kernel) ⟨Nat.le_of_ble_eq_true rfl, Nat.le_of_ble_eq_true rfl⟩ rfl (Nat.le_of_ble_eq_true rfl) ⟨Nat.le_of_ble_eq_true rfl, Nat.le_of_ble_eq_true rfl⟩ rfl dL_isSound_88 (fun x126 τ125 hw => ?_)
                  refine z_bipush C 8 (by decide) dL_isSound_91 ?_
                  refine z_icmp_lt (tgt := 172) C dL_isSound_93 (by decide) (fun c127 => ?_) (fun c127 => ?_)
                  · have hw := hw.1 c127
                    refine z_iconst C 0 (by decide) dL_isSound_172 ?_
                    exact hR _ _ _ _ dL_isSound_173 rfl hw
                  · have hw := hw.2 c127
                    refine z_aload_n C 1 (by rfl) dL_isSound_96 ?_
                    refine z_iload_n C 3 (by rfl) dL_isSound_97 ?_
                    refine zv_i C (As := [.int x22]) (bytes := cX8_window) (maxL := 2) (F1 := 2) (L1 := 42) (c_X8_window w _ j0 x22 _ h0 hw) h0.2 (tE7 h0.1) rfl 1 gL_isSound_X8_window rfl (by decide +kernel) ⟨Nat.le_of_ble_eq_true rfl, Nat.le_of_ble_eq_true rfl⟩ rfl (Nat.le_of_ble_eq_true rfl) ⟨Nat.le_of_ble_eq_true rfl, Nat.le_of_ble_eq_true rfl⟩ rfl dL_isSound_98 (fun x129 τ128 hw => ?_)
                    refine z_sipush C 256 (by decide) dL_isSound_101 ?_
                    refine z_icmp_gt (tgt := 172) C dL_isSound_104 (by decide) (fun c130 => ?_) (fun c130 => ?_)
                    · have hw := hw.1 c130
                      refine z_iconst C 0 (by decide) dL_isSound_172 ?_
                      exact hR _ _ _ _ dL_isSound_173 rfl hw
                    · have hw := hw.2 c130
                      refine z_aload_n C 1 (by rfl) dL_isSound_107 ?_
                      refine z_iload_n C 3 (by rfl) dL_isSound_108 ?_
                      refine zv_i C (As := [.int x22]) (bytes := cX8_timeout) (maxL := 2) (F1 := 2) (L1 := 42) (c_X8_timeout w _ j0 x22 _ h0 hw) h0.2 (tE7 h0.1) rfl 1 gL_isSound_X8_timeout rfl (by decide +kernel) ⟨Nat.le_of_ble_eq_true rfl, Nat.le_of_ble_eq_true rfl⟩ rfl (Nat.le_of_ble_eq_true rfl) ⟨Nat.le_of_ble_eq_true rfl, Nat.le_of_ble_eq_true rfl⟩ rfl dL_isSound_109 (fun x132 τ131 hw => ?_)
                      refine z_iconst C 3 (by decide) dL_isSound_112 ?_
                      refine z_icmp_lt (tgt := 172) C dL_isSound_113 (by decide) (fun c133 => ?_) (fun c133 => ?_)
                      · have hw := hw.1 c133
                        refine z_iconst C 0 (by decide) dL_isSound_172 ?_
                        exact hR _ _ _ _ dL_isSound_173 rfl hw
                      · have hw := hw.2 c133
                        refine z_aload_n C 1 (by rfl) dL_isSound_116 ?_
                        refine z_iload_n C 3 (by rfl) dL_isSound_117 ?_
                        refine zv_i C (As := [.int x22]) (bytes := cX8_timeout) (maxL := 2) (F1 := 2) (L1 := 42) (c_X8_timeout w _ j0 x22 _ h0 hw) h0.2 (tE7 h0.1) rfl 1 gL_isSound_X8_timeout rfl (by decide +kernel) ⟨Nat.le_of_ble_eq_true rfl, Nat.le_of_ble_eq_true rfl⟩ rfl (Nat.le_of_ble_eq_true rfl) ⟨Nat.le_of_ble_eq_true rfl, Nat.le_of_ble_eq_true rfl⟩ rfl dL_isSound_118 (fun x135 τ134 hw => ?_)
                        refine z_bipush C 60 (by decide) dL_isSound_121 ?_
                        refine z_icmp_gt (tgt := 172) C dL_isSound_123 (by decide) (fun c136 => ?_) (fun c136 => ?_)
                        · have hw := hw.1 c136
                          refine z_iconst C 0 (by decide) dL_isSound_172 ?_
                          exact hR _ _ _ _ dL_isSound_173 rfl hw
                        · have hw := hw.2 c136
                          refine z_aload_n C 1 (by rfl) dL_isSound_126 ?_
                          refine z_iload_n C 3 (by rfl) dL_isSound_127 ?_
                          refine zv_i C (As := [.int x22]) (bytes := cX8_tries) (maxL := 2) (F1 := 2) (L1 := 42) (c_X8_tries w _ j0 x22 _ h0 hw) h0.2 (tE7 h0.1) rfl 1 gL_isSound_X8_tries rfl (by decide +kernel) ⟨Nat.le_of_ble_eq_true rfl, Nat.le_of_ble_eq_true rfl⟩ rfl (Nat.le_of_ble_eq_true rfl) ⟨Nat.le_of_ble_eq_true rfl, Nat.le_of_ble_eq_true rfl⟩ rfl dL_isSound_128 (fun x138 τ137 hw => ?_)
                          refine z_if_lt (tgt := 172) C dL_isSound_131 (by decide) (fun c139 => ?_) (fun c139 => ?_)
                          · have hw := hw.1 c139
                            refine z_iconst C 0 (by decide) dL_isSound_172 ?_
                            exact hR _ _ _ _ dL_isSound_173 rfl hw
                          · have hw := hw.2 c139
                            refine z_aload_n C 1 (by rfl) dL_isSound_134 ?_
                            refine z_iload_n C 3 (by rfl) dL_isSound_135 ?_
                            refine zv_i C (As := [.int x22]) (bytes := cX8_tries) (maxL := 2) (F1 := 2) (L1 := 42) (c_X8_tries w _ j0 x22 _ h0 hw) h0.2 (tE7 h0.1) rfl 1 gL_isSound_X8_tries rfl (by decide +kernel) ⟨Nat.le_of_ble_eq_true rfl, Nat.le_of_ble_eq_true rfl⟩ rfl (Nat.le_of_ble_eq_true rfl) ⟨Nat.le_of_ble_eq_true rfl, Nat.le_of_ble_eq_true rfl⟩ rfl dL_isSound_136 (fun x141 τ140 hw => ?_)
                            refine z_bipush C 6 (by decide) dL_isSound_139 ?_
                            refine z_icmp_gt (tgt := 172) C dL_isSound_141 (by decide) (fun c142 => ?_) (fun c142 => ?_)
                            · have hw := hw.1 c142
                              refine z_iconst C 0 (by decide) dL_isSound_172 ?_
                              exact hR _ _ _ _ dL_isSound_173 rfl hw
                            · have hw := hw.2 c142
                              refine z_aload_n C 1 (by rfl) dL_isSound_144 ?_
                              refine z_iload_n C 3 (by rfl) dL_isSound_145 ?_
                              refine zv_i C (As := [.int x22]) (bytes := cX8_tries) (maxL := 2) (F1 := 2) (L1 := 42) (c_X8_tries w _ j0 x22 _ h0 hw) h0.2 (tE7 h0.1) rfl 1 gL_isSound_X8_tries rfl (by decide +kernel) ⟨Nat.le_of_ble_eq_true rfl, Nat.le_of_ble_eq_true rfl⟩ rfl (Nat.le_of_ble_eq_true rfl) ⟨Nat.le_of_ble_eq_true rfl, Nat.le_of_ble_eq_true rfl⟩ rfl dL_isSound_146 (fun x144 τ143 hw => ?_)
                              refine z_bipush C 6 (by decide) dL_isSound_149 ?_
                              obtain ⟨J145, hJ145, hw⟩ := hw
                              have jn145 : ∀ (x146 : Int32), J145 x146 → Zt w g τ143 (0, 0) 159 [(0, .ref (w.1 j0)), (1, .int x1), (2, .int x22), (3, .int x99)] [.int x146] := by
                                intro x146 hj145
                                have hw := hJ145 x146 hj145
                                refine z_iload_n C 3 (by rfl) dL_isSound_159 ?_
                                refine z_iconst C 3 (by decide) dL_isSound_160 ?_
                                obtain ⟨J147, hJ147, hw⟩ := hw
                                have jn147 : ∀ (x148 : Int32), J147 x148 → Zt w g τ143 (0, 0) 169 [(0, .ref (w.1 j0)), (1, .int x1), (2, .int x22), (3, .int x99)] [.int x148, .int x146] := by
                                  intro x148 hj147
                                  have hw := hJ147 x148 hj147
                                  refine z_icmp_eq (tgt := 174) C dL_isSound_169 (by decide) (fun c149 => ?_) (fun c149 => ?_)
                                  · have hw := hw.1 c149
                                    refine z_iload_n C 3 (by rfl) dL_isSound_174 ?_
                                    refine z_iconst C 2 (by decide) dL_isSound_175 ?_
                                    obtain ⟨J150, hJ150, hw⟩ := hw
                                    have jn150 : ∀ (τ151 : TS), J150 τ151 → Zt w g τ151 (0, 0) 216 [(0, .ref (w.1 j0)), (1, .int x1), (2, .int x22), (3, .int x99)] [] := by
                                      intro τ151 hj150
                                      have hw := hJ150 τ151 hj150
                                      refine z_iload_n C 3 (by rfl) dL_isSound_216 ?_
                                      refine z_iconst C 3 (by decide) dL_isSound_217 ?_
                                      obtain ⟨J152, hJ152, hw⟩ := hw
                                      have jn152 : ∀ (τ153 : TS), J152 τ153 → Zt w g τ153 (0, 0) 230 [(0, .ref (w.1 j0)), (1, .int x1), (2, .int x22), (3, .int x99)] [] := by
                                        intro τ153 hj152
                                        have hw := hJ152 τ153 hj152
                                        refine z_iload_n C 3 (by rfl) dL_isSound_230 ?_
                                        obtain ⟨J154, hJ154, hw⟩ := hw
                                        have jn154 : ∀ (τ155 : TS), J154 τ155 → Zt w g τ155 (0, 0) 242 [(0, .ref (w.1 j0)), (1, .int x1), (2, .int x22), (3, .int x99)] [] := by
                                          intro τ155 hj154
                                          have hw := hJ154 τ155 hj154
                                          refine z_aload_n C 0 (by rfl) dL_isSound_242 ?_
                                          refine z_iload_n C 2 (by rfl) dL_isSound_243 ?_
                                          refine zv_i C (As := [.int x22]) (bytes := cX8_timer) (maxL := 2) (F1 := 2) (L1 := 42) (c_X8_timer w _ j0 x22 _ h0 hw) h0.2 (tE7 h0.1) rfl 1 gL_isSound_X8_timer rfl (by decide +kernel) ⟨Nat.le_of_ble_eq_true rfl, Nat.le_of_ble_eq_true rfl⟩ rfl (Nat.le_of_ble_eq_true rfl) ⟨Nat.le_of_ble_eq_true rfl, Nat.le_of_ble_eq_true rfl⟩ rfl dL_isSound_244 (fun x157 τ156 hw => ?_)
                                          obtain ⟨J158, hJ158, hw⟩ := hw
                                          have jn158 : ∀ (τ159 : TS), J158 τ159 → Zt w g τ159 (0, 0) 264 [(0, .ref (w.1 j0)), (1, .int x1), (2, .int x22), (3, .int x99)] [] := by
                                            intro τ159 hj158
                                            have hw := hJ158 τ159 hj158
                                            refine z_aload_n C 0 (by rfl) dL_isSound_264 ?_
                                            refine z_iload_n C 2 (by rfl) dL_isSound_265 ?_
                                            refine zv_i C (As := [.int x22]) (bytes := cX8_measured) (maxL := 2) (F1 := 2) (L1 := 42) (c_X8_measured w _ j0 x22 _ h0 hw) h0.2 (tE7 h0.1) rfl 1 gL_isSound_X8_measured rfl (by decide +kernel) ⟨Nat.le_of_ble_eq_true rfl, Nat.le_of_ble_eq_true rfl⟩ rfl (Nat.le_of_ble_eq_true rfl) ⟨Nat.le_of_ble_eq_true rfl, Nat.le_of_ble_eq_true rfl⟩ rfl dL_isSound_266 (fun x161 τ160 hw => ?_)
                                            refine z_if_lt (tgt := 303) C dL_isSound_269 (by decide) (fun c162 => ?_) (fun c162 => ?_)
                                            · have hw := hw.1 c162
                                              refine z_aload_n C 0 (by rfl) dL_isSound_303 ?_
                                              refine z_iload_n C 2 (by rfl) dL_isSound_304 ?_
                                              refine zv_i C (As := [.int x22]) (bytes := cX8_recover) (maxL := 2) (F1 := 2) (L1 := 42) (c_X8_recover w _ j0 x22 _ h0 hw) h0.2 (tE7 h0.1) rfl 1 gL_isSound_X8_recover rfl (by decide +kernel) ⟨Nat.le_of_ble_eq_true rfl, Nat.le_of_ble_eq_true rfl⟩ rfl (Nat.le_of_ble_eq_true rfl) ⟨Nat.le_of_ble_eq_true rfl, Nat.le_of_ble_eq_true rfl⟩ rfl dL_isSound_305 (fun x164 τ163 hw => ?_)
                                              refine z_aload_n C 0 (by rfl) dL_isSound_308 ?_
                                              refine z_iload_n C 2 (by rfl) dL_isSound_309 ?_
                                              refine zv_i C (As := [.int x22]) (bytes := cX8_next) (maxL := 2) (F1 := 2) (L1 := 42) (c_X8_next w _ j0 x22 _ h0 hw) h0.2 (tE7 h0.1) rfl 1 gL_isSound_X8_next rfl (by decide +kernel) ⟨Nat.le_of_ble_eq_true rfl, Nat.le_of_ble_eq_true rfl⟩ rfl (Nat.le_of_ble_eq_true rfl) ⟨Nat.le_of_ble_eq_true rfl, Nat.le_of_ble_eq_true rfl⟩ rfl dL_isSound_310 (fun x166 τ165 hw => ?_)
                                              refine z_icmp_ge (tgt := 329) C dL_isSound_313 (by decide) (fun c167 => ?_) (fun c167 => ?_)
                                              · have hw := hw.1 c167
                                                refine z_iconst C 0 (by decide) dL_isSound_329 ?_
                                                exact hR _ _ _ _ dL_isSound_330 rfl hw
                                              · have hw := hw.2 c167
                                                refine z_aload_n C 0 (by rfl) dL_isSound_316 ?_
                                                refine z_iload_n C 2 (by rfl) dL_isSound_317 ?_
                                                refine z_aload_n C 0 (by rfl) dL_isSound_318 ?_
                                                refine z_iload_n C 2 (by rfl) dL_isSound_319 ?_
                                                refine zv_i C (As := [.int x22]) (bytes := cX8_wanted) (maxL := 2) (F1 := 1) (L1 := 21) (c_X8_wanted w _ j0 x22 _ h0 hw) h0.2 (tE7 h0.1) rfl 1 gL_isSound_X8_wanted rfl (by decide +kernel) ⟨Nat.le_of_ble_eq_true rfl, Nat.le_of_ble_eq_true rfl⟩ rfl (Nat.le_of_ble_eq_true rfl) ⟨Nat.le_of_ble_eq_true rfl, Nat.le_of_ble_eq_true rfl⟩ rfl dL_isSound_320 (fun x169 τ168 hw => ?_)
                                                refine zv_i C (As := [.int x22, .int x169]) (bytes := cX8_holds) (maxL := 4) (F1 := 1) (L1 := 21) (c_X8_holds w _ j0 x22 x169 _ h0 hw) h0.2 (tE7 h0.1) rfl 2 gL_isSound_X8_holds rfl (by decide +kernel) ⟨Nat.le_of_ble_eq_true rfl, Nat.le_of_ble_eq_true rfl⟩ rfl (Nat.le_of_ble_eq_true rfl) ⟨Nat.le_of_ble_eq_true rfl, Nat.le_of_ble_eq_true rfl⟩ rfl dL_isSound_323 (fun x171 τ170 hw => ?_)
                                                refine z_if_eq (tgt := 331) C dL_isSound_326 (by decide) (fun c172 => ?_) (fun c172 => ?_)
                                                · have hw := hw.1 c172
                                                  obtain ⟨x173, ex173⟩ : ∃ z : Int32, z = x22 + 1 := ⟨_, rfl⟩
                                                  have hw := hw x173 ex173
                                                  refine z_iinc C 2 x173 [(2, .int x173), (0, .ref (w.1 j0)), (1, .int x1), (3, .int x99)] dL_isSound_331 (by rfl) (by rw [ex173]; rfl) (by decide) rfl ?_
                                                  refine z_goto (tgt := 2) C dL_isSound_334 (by decide) ?_
                                                  refine z_sub [1, 2, 0] [(0, .ref (w.1 j0)), (1, .int x1), (2, .int x173)] rfl ?_
                                                  exact ih23 τ170 x173 (Nat.lt_of_lt_of_le hw.2 (Nat.le_of_lt_succ hlt23)) hw.1
                                                · have hw := hw.2 c172
                                                  refine z_iconst C 0 (by decide) dL_isSound_329 ?_
                                                  exact hR _ _ _ _ dL_isSound_330 rfl hw
                                            · have hw := hw.2 c162
                                              refine z_aload_n C 0 (by rfl) dL_isSound_272 ?_
                                              refine z_iload_n C 2 (by rfl) dL_isSound_273 ?_
                                              refine zv_i C (As := [.int x22]) (bytes := cX8_measured) (maxL := 2) (F1 := 2) (L1 := 42) (c_X8_measured w _ j0 x22 _ h0 hw) h0.2 (tE7 h0.1) rfl 1 gL_isSound_X8_measured rfl (by decide +kernel) ⟨Nat.le_of_ble_eq_true rfl, Nat.le_of_ble_eq_true rfl⟩ rfl (Nat.le_of_ble_eq_true rfl) ⟨Nat.le_of_ble_eq_true rfl, Nat.le_of_ble_eq_true rfl⟩ rfl dL_isSound_274 (fun x175 τ174 hw => ?_)
                                              refine z_aload_n C 0 (by rfl) dL_isSound_277 ?_
                                              refine z_iload_n C 2 (by rfl) dL_isSound_278 ?_
                                              refine zv_i C (As := [.int x22]) (bytes := cX8_base) (maxL := 2) (F1 := 2) (L1 := 42) (c_X8_base w _ j0 x22 _ h0 hw) h0.2 (tE7 h0.1) rfl 1 gL_isSound_X8_base rfl (by decide +kernel) ⟨Nat.le_of_ble_eq_true rfl, Nat.le_of_ble_eq_true rfl⟩ rfl (Nat.le_of_ble_eq_true rfl) ⟨Nat.le_of_ble_eq_true rfl, Nat.le_of_ble_eq_true rfl⟩ rfl dL_isSound_279 (fun x177 τ176 hw => ?_)
                                              obtain ⟨J178, hJ178, hw⟩ := hw
                                              have jn178 : J178  → Zt w g τ176 (0, 0) 290 [(0, .ref (w.1 j0)), (1, .int x1), (2, .int x22)] [] := by
                                                intro  hj178
                                                have hw := hJ178  hj178
                                                refine z_aload_n C 0 (by rfl) dL_isSound_290 ?_
                                                refine z_iload_n C 2 (by rfl) dL_isSound_291 ?_
                                                refine zv_i C (As := [.int x22]) (bytes := cX8_measured) (maxL := 2) (F1 := 2) (L1 := 42) (c_X8_measured w _ j0 x22 _ h0 hw) h0.2 (tE7 h0.1) rfl 1 gL_isSound_X8_measured rfl (by decide +kernel) ⟨Nat.le_of_ble_eq_true rfl, Nat.le_of_ble_eq_true rfl⟩ rfl (Nat.le_of_ble_eq_true rfl) ⟨Nat.le_of_ble_eq_true rfl, Nat.le_of_ble_eq_true rfl⟩ rfl dL_isSound_292 (fun x180 τ179 hw => ?_)
                                                refine z_aload_n C 0 (by rfl) dL_isSound_295 ?_
                                                refine z_iload_n C 2 (by rfl) dL_isSound_296 ?_
                                                refine zv_i C (As := [.int x22]) (bytes := cX8_next) (maxL := 2) (F1 := 2) (L1 := 42) (c_X8_next w _ j0 x22 _ h0 hw) h0.2 (tE7 h0.1) rfl 1 gL_isSound_X8_next rfl (by decide +kernel) ⟨Nat.le_of_ble_eq_true rfl, Nat.le_of_ble_eq_true rfl⟩ rfl (Nat.le_of_ble_eq_true rfl) ⟨Nat.le_of_ble_eq_true rfl, Nat.le_of_ble_eq_true rfl⟩ rfl dL_isSound_297 (fun x182 τ181 hw => ?_)
                                                refine z_icmp_ge (tgt := 329) C dL_isSound_300 (by decide) (fun c183 => ?_) (fun c183 => ?_)
                                                · have hw := hw.1 c183
                                                  refine z_iconst C 0 (by decide) dL_isSound_329 ?_
                                                  exact hR _ _ _ _ dL_isSound_330 rfl hw
                                                · have hw := hw.2 c183
                                                  refine z_aload_n C 0 (by rfl) dL_isSound_303 ?_
                                                  refine z_iload_n C 2 (by rfl) dL_isSound_304 ?_
                                                  refine zv_i C (As := [.int x22]) (bytes := cX8_recover) (maxL := 2) (F1 := 2) (L1 := 42) (c_X8_recover w _ j0 x22 _ h0 hw) h0.2 (tE7 h0.1) rfl 1 gL_isSound_X8_recover rfl (by decide +kernel) ⟨Nat.le_of_ble_eq_true rfl, Nat.le_of_ble_eq_true rfl⟩ rfl (Nat.le_of_ble_eq_true rfl) ⟨Nat.le_of_ble_eq_true rfl, Nat.le_of_ble_eq_true rfl⟩ rfl dL_isSound_305 (fun x185 τ184 hw => ?_)
                                                  refine z_aload_n C 0 (by rfl) dL_isSound_308 ?_
                                                  refine z_iload_n C 2 (by rfl) dL_isSound_309 ?_
                                                  refine zv_i C (As := [.int x22]) (bytes := cX8_next) (maxL := 2) (F1 := 2) (L1 := 42) (c_X8_next w _ j0 x22 _ h0 hw) h0.2 (tE7 h0.1) rfl 1 gL_isSound_X8_next rfl (by decide +kernel) ⟨Nat.le_of_ble_eq_true rfl, Nat.le_of_ble_eq_true rfl⟩ rfl (Nat.le_of_ble_eq_true rfl) ⟨Nat.le_of_ble_eq_true rfl, Nat.le_of_ble_eq_true rfl⟩ rfl dL_isSound_310 (fun x187 τ186 hw => ?_)
                                                  refine z_icmp_ge (tgt := 329) C dL_isSound_313 (by decide) (fun c188 => ?_) (fun c188 => ?_)
                                                  · have hw := hw.1 c188
                                                    refine z_iconst C 0 (by decide) dL_isSound_329 ?_
                                                    exact hR _ _ _ _ dL_isSound_330 rfl hw
                                                  · have hw := hw.2 c188
                                                    refine z_aload_n C 0 (by rfl) dL_isSound_316 ?_
                                                    refine z_iload_n C 2 (by rfl) dL_isSound_317 ?_
                                                    refine z_aload_n C 0 (by rfl) dL_isSound_318 ?_
                                                    refine z_iload_n C 2 (by rfl) dL_isSound_319 ?_
                                                    refine zv_i C (As := [.int x22]) (bytes := cX8_wanted) (maxL := 2) (F1 := 1) (L1 := 21) (c_X8_wanted w _ j0 x22 _ h0 hw) h0.2 (tE7 h0.1) rfl 1 gL_isSound_X8_wanted rfl (by decide +kernel) ⟨Nat.le_of_ble_eq_true rfl, Nat.le_of_ble_eq_true rfl⟩ rfl (Nat.le_of_ble_eq_true rfl) ⟨Nat.le_of_ble_eq_true rfl, Nat.le_of_ble_eq_true rfl⟩ rfl dL_isSound_320 (fun x190 τ189 hw => ?_)
                                                    refine zv_i C (As := [.int x22, .int x190]) (bytes := cX8_holds) (maxL := 4) (F1 := 1) (L1 := 21) (c_X8_holds w _ j0 x22 x190 _ h0 hw) h0.2 (tE7 h0.1) rfl 2 gL_isSound_X8_holds rfl (by decide +kernel) ⟨Nat.le_of_ble_eq_true rfl, Nat.le_of_ble_eq_true rfl⟩ rfl (Nat.le_of_ble_eq_true rfl) ⟨Nat.le_of_ble_eq_true rfl, Nat.le_of_ble_eq_true rfl⟩ rfl dL_isSound_323 (fun x192 τ191 hw => ?_)
                                                    refine z_if_eq (tgt := 331) C dL_isSound_326 (by decide) (fun c193 => ?_) (fun c193 => ?_)
                                                    · have hw := hw.1 c193
                                                      obtain ⟨x194, ex194⟩ : ∃ z : Int32, z = x22 + 1 := ⟨_, rfl⟩
                                                      have hw := hw x194 ex194
                                                      refine z_iinc C 2 x194 [(2, .int x194), (0, .ref (w.1 j0)), (1, .int x1)] dL_isSound_331 (by rfl) (by rw [ex194]; rfl) (by decide) rfl ?_
                                                      refine z_goto (tgt := 2) C dL_isSound_334 (by decide) ?_
                                                      refine z_sub [1, 2, 0] [(0, .ref (w.1 j0)), (1, .int x1), (2, .int x194)] rfl ?_
                                                      exact ih23 τ191 x194 (Nat.lt_of_lt_of_le hw.2 (Nat.le_of_lt_succ hlt23)) hw.1
                                                    · have hw := hw.2 c193
                                                      refine z_iconst C 0 (by decide) dL_isSound_329 ?_
                                                      exact hR _ _ _ _ dL_isSound_330 rfl hw
                                              refine z_icmp_ge (tgt := 290) C dL_isSound_282 (by decide) (fun c195 => ?_) (fun c195 => ?_)
                                              · have hw := hw.1 c195
                                                refine z_sub [0, 1, 2] [(0, .ref (w.1 j0)), (1, .int x1), (2, .int x22)] rfl ?_
                                                exact jn178 hw
                                              · have hw := hw.2 c195
                                                refine z_iload_n C 3 (by rfl) dL_isSound_285 ?_
                                                refine z_iconst C 1 (by decide) dL_isSound_286 ?_
                                                refine z_icmp_eq (tgt := 329) C dL_isSound_287 (by decide) (fun c196 => ?_) (fun c196 => ?_)
                                                · have hw := hw.1 c196
                                                  refine z_iconst C 0 (by decide) dL_isSound_329 ?_
                                                  exact hR _ _ _ _ dL_isSound_330 rfl hw
                                                · have hw := hw.2 c196
                                                  refine z_sub [0, 1, 2] [(0, .ref (w.1 j0)), (1, .int x1), (2, .int x22)] rfl ?_
                                                  exact jn178 hw
                                          refine z_if_lt (tgt := 264) C dL_isSound_247 (by decide) (fun c197 => ?_) (fun c197 => ?_)
                                          · have hw := hw.1 c197
                                            exact jn158 τ156 hw
                                          · have hw := hw.2 c197
                                            refine z_aload_n C 0 (by rfl) dL_isSound_250 ?_
                                            refine z_iload_n C 2 (by rfl) dL_isSound_251 ?_
                                            refine zv_i C (As := [.int x22]) (bytes := cX8_timer) (maxL := 2) (F1 := 2) (L1 := 42) (c_X8_timer w _ j0 x22 _ h0 hw) h0.2 (tE7 h0.1) rfl 1 gL_isSound_X8_timer rfl (by decide +kernel) ⟨Nat.le_of_ble_eq_true rfl, Nat.le_of_ble_eq_true rfl⟩ rfl (Nat.le_of_ble_eq_true rfl) ⟨Nat.le_of_ble_eq_true rfl, Nat.le_of_ble_eq_true rfl⟩ rfl dL_isSound_252 (fun x199 τ198 hw => ?_)
                                            refine z_aload_n C 0 (by rfl) dL_isSound_255 ?_
                                            refine zv_i C (As := []) (bytes := cX8_clock) (maxL := 1) (F1 := 0) (L1 := 0) (c_X8_clock w _ j0 _ h0 hw) h0.2 (tE7 h0.1) rfl 0 gL_isSound_X8_clock rfl (by decide +kernel) ⟨Nat.le_of_ble_eq_true rfl, Nat.le_of_ble_eq_true rfl⟩ rfl (Nat.le_of_ble_eq_true rfl) ⟨Nat.le_of_ble_eq_true rfl, Nat.le_of_ble_eq_true rfl⟩ rfl dL_isSound_256 (fun x201 τ200 hw => ?_)
                                            refine z_icmp_gt (tgt := 264) C dL_isSound_259 (by decide) (fun c202 => ?_) (fun c202 => ?_)
                                            · have hw := hw.1 c202
                                              exact jn158 τ200 hw
                                            · have hw := hw.2 c202
                                              refine z_iconst C 0 (by decide) dL_isSound_262 ?_
                                              exact hR _ _ _ _ dL_isSound_263 rfl hw
                                        refine z_if_ne (tgt := 242) C dL_isSound_231 (by decide) (fun c203 => ?_) (fun c203 => ?_)
                                        · have hw := hw.1 c203
                                          exact jn154 τ153 hw
                                        · have hw := hw.2 c203
                                          refine z_aload_n C 0 (by rfl) dL_isSound_234 ?_
                                          refine z_iload_n C 2 (by rfl) dL_isSound_235 ?_
                                          refine zv_i C (As := [.int x22]) (bytes := cX8_next) (maxL := 2) (F1 := 2) (L1 := 42) (c_X8_next w _ j0 x22 _ h0 hw) h0.2 (tE7 h0.1) rfl 1 gL_isSound_X8_next rfl (by decide +kernel) ⟨Nat.le_of_ble_eq_true rfl, Nat.le_of_ble_eq_true rfl⟩ rfl (Nat.le_of_ble_eq_true rfl) ⟨Nat.le_of_ble_eq_true rfl, Nat.le_of_ble_eq_true rfl⟩ rfl dL_isSound_236 (fun x205 τ204 hw => ?_)
                                          refine z_if_ne (tgt := 262) C dL_isSound_239 (by decide) (fun c206 => ?_) (fun c206 => ?_)
                                          · have hw := hw.1 c206
                                            refine z_iconst C 0 (by decide) dL_isSound_262 ?_
                                            exact hR _ _ _ _ dL_isSound_263 rfl hw
                                          · have hw := hw.2 c206
                                            exact jn154 τ204 hw
                                      refine z_icmp_ne (tgt := 230) C dL_isSound_218 (by decide) (fun c207 => ?_) (fun c207 => ?_)
                                      · have hw := hw.1 c207
                                        exact jn152 τ151 hw
                                      · have hw := hw.2 c207
                                        refine z_aload_n C 0 (by rfl) dL_isSound_221 ?_
                                        refine z_iload_n C 2 (by rfl) dL_isSound_222 ?_
                                        refine zv_i C (As := [.int x22]) (bytes := cX8_timer) (maxL := 2) (F1 := 2) (L1 := 42) (c_X8_timer w _ j0 x22 _ h0 hw) h0.2 (tE7 h0.1) rfl 1 gL_isSound_X8_timer rfl (by decide +kernel) ⟨Nat.le_of_ble_eq_true rfl, Nat.le_of_ble_eq_true rfl⟩ rfl (Nat.le_of_ble_eq_true rfl) ⟨Nat.le_of_ble_eq_true rfl, Nat.le_of_ble_eq_true rfl⟩ rfl dL_isSound_223 (fun x209 τ208 hw => ?_)
                                        refine z_iconst C (-1) (by decide) dL_isSound_226 ?_
                                        refine z_icmp_ne (tgt := 262) C dL_isSound_227 (by decide) (fun c210 => ?_) (fun c210 => ?_)
                                        · have hw := hw.1 c210
                                          refine z_iconst C 0 (by decide) dL_isSound_262 ?_
                                          exact hR _ _ _ _ dL_isSound_263 rfl hw
                                        · have hw := hw.2 c210
                                          exact jn152 τ208 hw
                                    refine z_icmp_ne (tgt := 216) C dL_isSound_176 (by decide) (fun c211 => ?_) (fun c211 => ?_)
                                    · have hw := hw.1 c211
                                      exact jn150 τ143 hw
                                    · have hw := hw.2 c211
                                      refine z_aload_n C 0 (by rfl) dL_isSound_179 ?_
                                      refine z_iload_n C 2 (by rfl) dL_isSound_180 ?_
                                      refine zv_i C (As := [.int x22]) (bytes := cX8_base) (maxL := 2) (F1 := 2) (L1 := 42) (c_X8_base w _ j0 x22 _ h0 hw) h0.2 (tE7 h0.1) rfl 1 gL_isSound_X8_base rfl (by decide +kernel) ⟨Nat.le_of_ble_eq_true rfl, Nat.le_of_ble_eq_true rfl⟩ rfl (Nat.le_of_ble_eq_true rfl) ⟨Nat.le_of_ble_eq_true rfl, Nat.le_of_ble_eq_true rfl⟩ rfl dL_isSound_181 (fun x213 τ212 hw => ?_)
                                      refine z_aload_n C 0 (by rfl) dL_isSound_184 ?_
                                      refine z_iload_n C 2 (by rfl) dL_isSound_185 ?_
                                      refine zv_i C (As := [.int x22]) (bytes := cX8_given) (maxL := 2) (F1 := 2) (L1 := 42) (c_X8_given w _ j0 x22 _ h0 hw) h0.2 (tE7 h0.1) rfl 1 gL_isSound_X8_given rfl (by decide +kernel) ⟨Nat.le_of_ble_eq_true rfl, Nat.le_of_ble_eq_true rfl⟩ rfl (Nat.le_of_ble_eq_true rfl) ⟨Nat.le_of_ble_eq_true rfl, Nat.le_of_ble_eq_true rfl⟩ rfl dL_isSound_186 (fun x215 τ214 hw => ?_)
                                      refine z_iconst C 1 (by decide) dL_isSound_189 ?_
                                      refine z_iadd C dL_isSound_190 ?_
                                      refine z_icmp_ne (tgt := 262) C dL_isSound_191 (by decide) (fun c216 => ?_) (fun c216 => ?_)
                                      · have hw := hw.1 c216
                                        refine z_iconst C 0 (by decide) dL_isSound_262 ?_
                                        exact hR _ _ _ _ dL_isSound_263 rfl hw
                                      · have hw := hw.2 c216
                                        refine z_aload_n C 0 (by rfl) dL_isSound_194 ?_
                                        refine z_iload_n C 2 (by rfl) dL_isSound_195 ?_
                                        refine zv_i C (As := [.int x22]) (bytes := cX8_timer) (maxL := 2) (F1 := 2) (L1 := 42) (c_X8_timer w _ j0 x22 _ h0 hw) h0.2 (tE7 h0.1) rfl 1 gL_isSound_X8_timer rfl (by decide +kernel) ⟨Nat.le_of_ble_eq_true rfl, Nat.le_of_ble_eq_true rfl⟩ rfl (Nat.le_of_ble_eq_true rfl) ⟨Nat.le_of_ble_eq_true rfl, Nat.le_of_ble_eq_true rfl⟩ rfl dL_isSound_196 (fun x218 τ217 hw => ?_)
                                        refine z_iconst C (-1) (by decide) dL_isSound_199 ?_
                                        refine z_icmp_ne (tgt := 262) C dL_isSound_200 (by decide) (fun c219 => ?_) (fun c219 => ?_)
                                        · have hw := hw.1 c219
                                          refine z_iconst C 0 (by decide) dL_isSound_262 ?_
                                          exact hR _ _ _ _ dL_isSound_263 rfl hw
                                        · have hw := hw.2 c219
                                          refine z_aload_n C 0 (by rfl) dL_isSound_203 ?_
                                          refine z_iload_n C 2 (by rfl) dL_isSound_204 ?_
                                          refine zv_i C (As := [.int x22]) (bytes := cX8_wanted) (maxL := 2) (F1 := 1) (L1 := 21) (c_X8_wanted w _ j0 x22 _ h0 hw) h0.2 (tE7 h0.1) rfl 1 gL_isSound_X8_wanted rfl (by decide +kernel) ⟨Nat.le_of_ble_eq_true rfl, Nat.le_of_ble_eq_true rfl⟩ rfl (Nat.le_of_ble_eq_true rfl) ⟨Nat.le_of_ble_eq_true rfl, Nat.le_of_ble_eq_true rfl⟩ rfl dL_isSound_205 (fun x221 τ220 hw => ?_)
                                          refine z_aload_n C 0 (by rfl) dL_isSound_208 ?_
                                          refine z_iload_n C 2 (by rfl) dL_isSound_209 ?_
                                          refine zv_i C (As := [.int x22]) (bytes := cX8_base) (maxL := 2) (F1 := 2) (L1 := 42) (c_X8_base w _ j0 x22 _ h0 hw) h0.2 (tE7 h0.1) rfl 1 gL_isSound_X8_base rfl (by decide +kernel) ⟨Nat.le_of_ble_eq_true rfl, Nat.le_of_ble_eq_true rfl⟩ rfl (Nat.le_of_ble_eq_true rfl) ⟨Nat.le_of_ble_eq_true rfl, Nat.le_of_ble_eq_true rfl⟩ rfl dL_isSound_210 (fun x223 τ222 hw => ?_)
                                          refine z_icmp_ne (tgt := 262) C dL_isSound_213 (by decide) (fun c224 => ?_) (fun c224 => ?_)
                                          · have hw := hw.1 c224
                                            refine z_iconst C 0 (by decide) dL_isSound_262 ?_
                                            exact hR _ _ _ _ dL_isSound_263 rfl hw
                                          · have hw := hw.2 c224
                                            exact jn150 τ222 hw
                                  · have hw := hw.2 c149
                                    refine z_iconst C 0 (by decide) dL_isSound_172 ?_
                                    exact hR _ _ _ _ dL_isSound_173 rfl hw
                                refine z_icmp_ne (tgt := 168) C dL_isSound_161 (by decide) (fun c225 => ?_) (fun c225 => ?_)
                                · have hw := hw.1 c225
                                  refine z_iconst C 0 (by decide) dL_isSound_168 ?_
                                  exact jn147 0 hw
                                · have hw := hw.2 c225
                                  refine z_iconst C 1 (by decide) dL_isSound_164 ?_
                                  refine z_goto (tgt := 169) C dL_isSound_165 (by decide) ?_
                                  exact jn147 1 hw
                              refine z_icmp_ne (tgt := 158) C dL_isSound_151 (by decide) (fun c226 => ?_) (fun c226 => ?_)
                              · have hw := hw.1 c226
                                refine z_iconst C 0 (by decide) dL_isSound_158 ?_
                                refine z_sub [1, 2, 3, 0] [(0, .ref (w.1 j0)), (1, .int x1), (2, .int x22), (3, .int x99)] rfl ?_
                                exact jn145 0 hw
                              · have hw := hw.2 c226
                                refine z_iconst C 1 (by decide) dL_isSound_154 ?_
                                refine z_goto (tgt := 159) C dL_isSound_155 (by decide) ?_
                                refine z_sub [1, 2, 3, 0] [(0, .ref (w.1 j0)), (1, .int x1), (2, .int x22), (3, .int x99)] rfl ?_
                                exact jn145 1 hw
                · have hw := hw.2 c124
                  refine z_iconst C 0 (by decide) dL_isSound_84 ?_
                  exact hR _ _ _ _ dL_isSound_85 rfl hw
  refine z_sub [1, 2, 0] [(0, .ref (w.1 j0)), (1, .int x1), (2, .int 0)] rfl ?_
  exact lp23 _ τ 0 (Nat.lt_succ_self _) hI23
