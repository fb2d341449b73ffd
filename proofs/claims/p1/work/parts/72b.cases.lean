def wl_16 (τ : TS) (xs : Nat → Int32) (K : TS → Prop) : Prop :=
  wp_L_flying τ 0 (xs 1) (xs 2) 503 (fun τ21 x22 => wp_X11_flying τ21 234 (xs 1) (xs 2) (fun τ23 x24 => wp_X11_thrown τ23 234 (fun τ25 x26 => ((x26 = x22) → (((¬ x22 = 0) → (K τ25)) ∧ ((x22 = 0) → ((((lg_cmp (tp_jl (τ25 503 0) (τ25 503 1)) (Int32.toInt64 x24)) = 0) → (K τ25)) ∧ ((¬ (lg_cmp (tp_jl (τ25 503 0) (τ25 503 1)) (Int32.toInt64 x24)) = 0) → False))))) ∧ ((¬ x26 = x22) → False))))
set_option maxHeartbeats 4000000 in
set_option maxRecDepth 100000 in
theorem cl_16 {w : WPar} {g : Cxt} {τ : TS} {b : Nat} {xs : Nat → Int32} (C : Cok w g cL_law RL wsL_law 9 14 560 600002 7302232) (D : CX w g) (N3 : tp_N3g g) (S : CS w g b 5 xs) (hl : w.2.1.stackTraces = false) (hN : tp_N w = 504) (h1 : tp_is w 0 7) (h2 : tp_is w 234 20) (h3 : tp_is w 503 33) (K : TS → Prop) (hK : ∀ τ2, K τ2 → Zt w g τ2 (512, 23300) 2739 [(4, .int 0), (3, .ref (w.1 503)), (2, .ref (w.1 234)), (1, .ref (w.1 0)), (0, .ref b)] []) (hw : wl_16 τ xs K) : Zt w g τ (504, 23236) 1154 [(4, .int 0), (3, .ref (w.1 503)), (2, .ref (w.1 234)), (1, .ref (w.1 0)), (0, .ref b)] [] := by
  unfold wl_16 at hw
  refine z_aload_n C 3 (by rfl) dL_law_1154 ?_
  refine z_aload_n C 4 (by rfl) dL_law_1155 ?_
  refine z_iload C 0 (by rfl) dL_law_1156 ?_
  refine z_iconst C 1 (by decide) dL_law_1158 ?_
  refine z_iadd C dL_law_1159 ?_
  refine z_sldn C S 1 (by decide) (by unfold vp_in; decide) dL_law_1160 ?_
  refine z_aload_n C 4 (by rfl) dL_law_1161 ?_
  refine z_iload C 0 (by rfl) dL_law_1162 ?_
  refine z_iconst C 2 (by decide) dL_law_1164 ?_
  refine z_iadd C dL_law_1165 ?_
  refine z_sldn C S 2 (by decide) (by unfold vp_in; decide) dL_law_1166 ?_
  refine z_aload_n C 1 (by rfl) dL_law_1167 ?_
  refine zs_act C D N3 (hh := [(0, 10, 13, 19)]) (As := [.ref (w.1 0), .int (xs 1), .int (xs 2), .ref (w.1 503)]) (bytes := cL_flying) (maxL := 5) (F1 := 9) (L1 := 147) (mc := 2) (ms := 12) (c_L_flying w _ 0 (xs 1) (xs 2) 503 _ hl h1 h3 hw) 4 gL_law_L_flying rfl (by decide +kernel) ⟨Nat.le_of_ble_eq_true rfl, Nat.le_of_ble_eq_true rfl⟩ rfl (Nat.le_of_ble_eq_true rfl) (k2 := (506, 23248)) rfl ⟨Nat.le_of_ble_eq_true rfl, Nat.le_of_ble_eq_true rfl⟩ rfl dL_law_1168 (fun x22 τ21 hw => ?_)
  refine z_istore C [(5, .int x22), (4, .int 0), (3, .ref (w.1 503)), (2, .ref (w.1 234)), (1, .ref (w.1 0)), (0, .ref b)] dL_law_1171 (by decide) rfl ?_
  refine z_aload_n C 3 (by rfl) dL_law_1173 ?_
  refine z_aload_n C 5 (by rfl) dL_law_1174 ?_
  refine z_iload C 1 (by rfl) dL_law_1175 ?_
  refine z_iconst C 1 (by decide) dL_law_1177 ?_
  refine z_iadd C dL_law_1178 ?_
  refine z_sldn C S 1 (by decide) (by unfold vp_in; decide) dL_law_1179 ?_
  refine z_aload_n C 5 (by rfl) dL_law_1180 ?_
  refine z_iload C 1 (by rfl) dL_law_1181 ?_
  refine z_iconst C 2 (by decide) dL_law_1183 ?_
  refine z_iadd C dL_law_1184 ?_
  refine z_sldn C S 2 (by decide) (by unfold vp_in; decide) dL_law_1185 ?_
  refine zv_i C (As := [.int (xs 1), .int (xs 2)]) (bytes := cX11_flying) (maxL := 3) (F1 := 3) (L1 := 65) (c_X11_flying w _ 234 (xs 1) (xs 2) _ h2 hw) h2.2 (tE20 h2.1) rfl 2 gL_law_X11_flying rfl (by decide +kernel) ⟨Nat.le_of_ble_eq_true rfl, Nat.le_of_ble_eq_true rfl⟩ rfl (Nat.le_of_ble_eq_true rfl) ⟨Nat.le_of_ble_eq_true rfl, Nat.le_of_ble_eq_true rfl⟩ rfl dL_law_1186 (fun x24 τ23 hw => ?_)
  refine z_istore C [(6, .int x24), (5, .int x22), (4, .int 0), (3, .ref (w.1 503)), (2, .ref (w.1 234)), (1, .ref (w.1 0)), (0, .ref b)] dL_law_1189 (by decide) rfl ?_
  refine z_aload_n C 4 (by rfl) dL_law_1191 ?_
  refine zv_i C (As := []) (bytes := cX11_thrown) (maxL := 1) (F1 := 0) (L1 := 0) (c_X11_thrown w _ 234 _ h2 hw) h2.2 (tE20 h2.1) rfl 0 gL_law_X11_thrown rfl (by decide +kernel) ⟨Nat.le_of_ble_eq_true rfl, Nat.le_of_ble_eq_true rfl⟩ rfl (Nat.le_of_ble_eq_true rfl) ⟨Nat.le_of_ble_eq_true rfl, Nat.le_of_ble_eq_true rfl⟩ rfl dL_law_1192 (fun x26 τ25 hw => ?_)
  refine z_iload C 1 (by rfl) dL_law_1195 ?_
  refine z_icmp_eq (tgt := 1202) C dL_law_1197 (by decide) (fun c27 => ?_) (fun c27 => ?_)
  · have hw := hw.1 c27
    refine z_iload C 1 (by rfl) dL_law_1202 ?_
    refine z_if_ne (tgt := 1219) C dL_law_1204 (by decide) (fun c28 => ?_) (fun c28 => ?_)
    · have hw := hw.1 c28
      refine z_goto (tgt := 2739) C dL_law_1219 (by decide) ?_
      refine z_widen (512, 23300) (Nat.le_of_ble_eq_true rfl) (Nat.le_of_ble_eq_true rfl) ?_
      refine z_sub [2, 3, 4, 5, 6] [(4, .int 0), (3, .ref (w.1 503)), (2, .ref (w.1 234)), (1, .ref (w.1 0)), (0, .ref b)] rfl ?_
      exact hK _ hw
    · have hw := hw.2 c28
      refine z_aload_n C 3 (by rfl) dL_law_1207 ?_
      refine z_iconst C 0 (by decide) dL_law_1208 ?_
      refine z_lald C (x := 0) h3 (by unfold vp_in; decide) dL_law_1209 ?_
      refine z_iload C 0 (by rfl) dL_law_1210 ?_
      refine z_i2l C dL_law_1212 ?_
      refine z_lcmp C dL_law_1213 ?_
      refine z_if_eq (tgt := 1219) C dL_law_1214 (by decide) (fun c29 => ?_) (fun c29 => ?_)
      · have hw := hw.1 c29
        refine z_goto (tgt := 2739) C dL_law_1219 (by decide) ?_
        refine z_widen (512, 23300) (Nat.le_of_ble_eq_true rfl) (Nat.le_of_ble_eq_true rfl) ?_
        refine z_sub [2, 3, 4, 5, 6] [(4, .int 0), (3, .ref (w.1 503)), (2, .ref (w.1 234)), (1, .ref (w.1 0)), (0, .ref b)] rfl ?_
        exact hK _ hw
      · have hw := hw.2 c29
        refine z_iconst C 0 (by decide) dL_law_1217 ?_
        exact hw.elim
  · have hw := hw.2 c27
    refine z_iconst C 0 (by decide) dL_law_1200 ?_
    exact hw.elim
def wl_17 (τ : TS) (xs : Nat → Int32) (K : TS → Prop) : Prop :=
  wp_L_flown τ 0 (xs 1) (xs 2) 503 (fun τ21 x22 => wp_X11_flown τ21 234 (xs 1) (xs 2) (fun τ23 x24 => wp_X11_thrown τ23 234 (fun τ25 x26 => ((x26 = x22) → (((¬ x22 = 0) → (K τ25)) ∧ ((x22 = 0) → ((((lg_cmp (tp_jl (τ25 503 0) (τ25 503 1)) (Int32.toInt64 x24)) = 0) → (K τ25)) ∧ ((¬ (lg_cmp (tp_jl (τ25 503 0) (τ25 503 1)) (Int32.toInt64 x24)) = 0) → False))))) ∧ ((¬ x26 = x22) → False))))
set_option maxHeartbeats 4000000 in
set_option maxRecDepth 100000 in
theorem cl_17 {w : WPar} {g : Cxt} {τ : TS} {b : Nat} {xs : Nat → Int32} (C : Cok w g cL_law RL wsL_law 9 14 560 600002 7302232) (D : CX w g) (N3 : tp_N3g g) (S : CS w g b 5 xs) (hl : w.2.1.stackTraces = false) (hN : tp_N w = 504) (h1 : tp_is w 0 7) (h2 : tp_is w 234 20) (h3 : tp_is w 503 33) (K : TS → Prop) (hK : ∀ τ2, K τ2 → Zt w g τ2 (512, 23300) 2739 [(4, .int 0), (3, .ref (w.1 503)), (2, .ref (w.1 234)), (1, .ref (w.1 0)), (0, .ref b)] []) (hw : wl_17 τ xs K) : Zt w g τ (504, 23236) 1222 [(4, .int 0), (3, .ref (w.1 503)), (2, .ref (w.1 234)), (1, .ref (w.1 0)), (0, .ref b)] [] := by
  unfold wl_17 at hw
  refine z_aload_n C 3 (by rfl) dL_law_1222 ?_
  refine z_aload_n C 4 (by rfl) dL_law_1223 ?_
  refine z_iload C 0 (by rfl) dL_law_1224 ?_
  refine z_iconst C 1 (by decide) dL_law_1226 ?_
  refine z_iadd C dL_law_1227 ?_
  refine z_sldn C S 1 (by decide) (by unfold vp_in; decide) dL_law_1228 ?_
  refine z_aload_n C 4 (by rfl) dL_law_1229 ?_
  refine z_iload C 0 (by rfl) dL_law_1230 ?_
  refine z_iconst C 2 (by decide) dL_law_1232 ?_
  refine z_iadd C dL_law_1233 ?_
  refine z_sldn C S 2 (by decide) (by unfold vp_in; decide) dL_law_1234 ?_
  refine z_aload_n C 1 (by rfl) dL_law_1235 ?_
  refine zs_act C D N3 (hh := [(0, 10, 13, 19)]) (As := [.ref (w.1 0), .int (xs 1), .int (xs 2), .ref (w.1 503)]) (bytes := cL_flown) (maxL := 5) (F1 := 9) (L1 := 147) (mc := 2) (ms := 12) (c_L_flown w _ 0 (xs 1) (xs 2) 503 _ hl h1 h3 hw) 4 gL_law_L_flown rfl (by decide +kernel) ⟨Nat.le_of_ble_eq_true rfl, Nat.le_of_ble_eq_true rfl⟩ rfl (Nat.le_of_ble_eq_true rfl) (k2 := (506, 23248)) rfl ⟨Nat.le_of_ble_eq_true rfl, Nat.le_of_ble_eq_true rfl⟩ rfl dL_law_1236 (fun x22 τ21 hw => ?_)
  refine z_istore C [(5, .int x22), (4, .int 0), (3, .ref (w.1 503)), (2, .ref (w.1 234)), (1, .ref (w.1 0)), (0, .ref b)] dL_law_1239 (by decide) rfl ?_
  refine z_aload_n C 3 (by rfl) dL_law_1241 ?_
  refine z_aload_n C 5 (by rfl) dL_law_1242 ?_
  refine z_iload C 1 (by rfl) dL_law_1243 ?_
  refine z_iconst C 1 (by decide) dL_law_1245 ?_
  refine z_iadd C dL_law_1246 ?_
  refine z_sldn C S 1 (by decide) (by unfold vp_in; decide) dL_law_1247 ?_
  refine z_aload_n C 5 (by rfl) dL_law_1248 ?_
  refine z_iload C 1 (by rfl) dL_law_1249 ?_
  refine z_iconst C 2 (by decide) dL_law_1251 ?_
  refine z_iadd C dL_law_1252 ?_
  refine z_sldn C S 2 (by decide) (by unfold vp_in; decide) dL_law_1253 ?_
  refine zv_i C (As := [.int (xs 1), .int (xs 2)]) (bytes := cX11_flown) (maxL := 3) (F1 := 3) (L1 := 65) (c_X11_flown w _ 234 (xs 1) (xs 2) _ h2 hw) h2.2 (tE20 h2.1) rfl 2 gL_law_X11_flown rfl (by decide +kernel) ⟨Nat.le_of_ble_eq_true rfl, Nat.le_of_ble_eq_true rfl⟩ rfl (Nat.le_of_ble_eq_true rfl) ⟨Nat.le_of_ble_eq_true rfl, Nat.le_of_ble_eq_true rfl⟩ rfl dL_law_1254 (fun x24 τ23 hw => ?_)
  refine z_istore C [(6, .int x24), (5, .int x22), (4, .int 0), (3, .ref (w.1 503)), (2, .ref (w.1 234)), (1, .ref (w.1 0)), (0, .ref b)] dL_law_1257 (by decide) rfl ?_
  refine z_aload_n C 4 (by rfl) dL_law_1259 ?_
  refine zv_i C (As := []) (bytes := cX11_thrown) (maxL := 1) (F1 := 0) (L1 := 0) (c_X11_thrown w _ 234 _ h2 hw) h2.2 (tE20 h2.1) rfl 0 gL_law_X11_thrown rfl (by decide +kernel) ⟨Nat.le_of_ble_eq_true rfl, Nat.le_of_ble_eq_true rfl⟩ rfl (Nat.le_of_ble_eq_true rfl) ⟨Nat.le_of_ble_eq_true rfl, Nat.le_of_ble_eq_true rfl⟩ rfl dL_law_1260 (fun x26 τ25 hw => ?_)
  refine z_iload C 1 (by rfl) dL_law_1263 ?_
  refine z_icmp_eq (tgt := 1270) C dL_law_1265 (by decide) (fun c27 => ?_) (fun c27 => ?_)
  · have hw := hw.1 c27
    refine z_iload C 1 (by rfl) dL_law_1270 ?_
    refine z_if_ne (tgt := 1287) C dL_law_1272 (by decide) (fun c28 => ?_) (fun c28 => ?_)
    · have hw := hw.1 c28
      refine z_goto (tgt := 2739) C dL_law_1287 (by decide) ?_
      refine z_widen (512, 23300) (Nat.le_of_ble_eq_true rfl) (Nat.le_of_ble_eq_true rfl) ?_
      refine z_sub [2, 3, 4, 5, 6] [(4, .int 0), (3, .ref (w.1 503)), (2, .ref (w.1 234)), (1, .ref (w.1 0)), (0, .ref b)] rfl ?_
      exact hK _ hw
    · have hw := hw.2 c28
      refine z_aload_n C 3 (by rfl) dL_law_1275 ?_
      refine z_iconst C 0 (by decide) dL_law_1276 ?_
      refine z_lald C (x := 0) h3 (by unfold vp_in; decide) dL_law_1277 ?_
      refine z_iload C 0 (by rfl) dL_law_1278 ?_
      refine z_i2l C dL_law_1280 ?_
      refine z_lcmp C dL_law_1281 ?_
      refine z_if_eq (tgt := 1287) C dL_law_1282 (by decide) (fun c29 => ?_) (fun c29 => ?_)
      · have hw := hw.1 c29
        refine z_goto (tgt := 2739) C dL_law_1287 (by decide) ?_
        refine z_widen (512, 23300) (Nat.le_of_ble_eq_true rfl) (Nat.le_of_ble_eq_true rfl) ?_
        refine z_sub [2, 3, 4, 5, 6] [(4, .int 0), (3, .ref (w.1 503)), (2, .ref (w.1 234)), (1, .ref (w.1 0)), (0, .ref b)] rfl ?_
        exact hK _ hw
      · have hw := hw.2 c29
        refine z_iconst C 0 (by decide) dL_law_1285 ?_
        exact hw.elim
  · have hw := hw.2 c27
    refine z_iconst C 0 (by decide) dL_law_1268 ?_
    exact hw.elim
def wl_18 (τ : TS) (xs : Nat → Int32) (K : TS → Prop) : Prop :=
  wp_X8_lost τ 0 (fun τ21 x22 => wp_X11_lost τ21 234 (fun τ23 x24 => ((x22 = x24) → (K τ23)) ∧ ((¬ x22 = x24) → False)))
set_option maxHeartbeats 4000000 in
set_option maxRecDepth 100000 in
theorem cl_18 {w : WPar} {g : Cxt} {τ : TS} {b : Nat} {xs : Nat → Int32} (C : Cok w g cL_law RL wsL_law 9 14 560 600002 7302232) (D : CX w g) (N3 : tp_N3g g) (S : CS w g b 5 xs) (hl : w.2.1.stackTraces = false) (hN : tp_N w = 504) (h1 : tp_is w 0 7) (h2 : tp_is w 234 20) (h3 : tp_is w 503 33) (K : TS → Prop) (hK : ∀ τ2, K τ2 → Zt w g τ2 (512, 23300) 2739 [(4, .int 0), (3, .ref (w.1 503)), (2, .ref (w.1 234)), (1, .ref (w.1 0)), (0, .ref b)] []) (hw : wl_18 τ xs K) : Zt w g τ (504, 23236) 1290 [(4, .int 0), (3, .ref (w.1 503)), (2, .ref (w.1 234)), (1, .ref (w.1 0)), (0, .ref b)] [] := by
  unfold wl_18 at hw
  refine z_aload_n C 3 (by rfl) dL_law_1290 ?_
  refine zv_i C (As := []) (bytes := cX8_lost) (maxL := 1) (F1 := 0) (L1 := 0) (c_X8_lost w _ 0 _ h1 hw) h1.2 (tE7 h1.1) rfl 0 gL_law_X8_lost rfl (by decide +kernel) ⟨Nat.le_of_ble_eq_true rfl, Nat.le_of_ble_eq_true rfl⟩ rfl (Nat.le_of_ble_eq_true rfl) ⟨Nat.le_of_ble_eq_true rfl, Nat.le_of_ble_eq_true rfl⟩ rfl dL_law_1291 (fun x22 τ21 hw => ?_)
  refine z_aload_n C 2 (by rfl) dL_law_1294 ?_
  refine zv_i C (As := []) (bytes := cX11_lost) (maxL := 1) (F1 := 0) (L1 := 0) (c_X11_lost w _ 234 _ h2 hw) h2.2 (tE20 h2.1) rfl 0 gL_law_X11_lost rfl (by decide +kernel) ⟨Nat.le_of_ble_eq_true rfl, Nat.le_of_ble_eq_true rfl⟩ rfl (Nat.le_of_ble_eq_true rfl) ⟨Nat.le_of_ble_eq_true rfl, Nat.le_of_ble_eq_true rfl⟩ rfl dL_law_1295 (fun x24 τ23 hw => ?_)
  refine z_icmp_eq (tgt := 2739) C dL_law_1298 (by decide) (fun c25 => ?_) (fun c25 => ?_)
  · have hw := hw.1 c25
    refine z_widen (512, 23300) (Nat.le_of_ble_eq_true rfl) (Nat.le_of_ble_eq_true rfl) ?_
    exact hK _ hw
  · have hw := hw.2 c25
    refine z_iconst C 0 (by decide) dL_law_1301 ?_
    exact hw.elim
def wl_19 (τ : TS) (xs : Nat → Int32) (K : TS → Prop) : Prop :=
  wp_X8_underWay τ 0 (fun τ21 x22 => wp_X11_underWay τ21 234 (fun τ23 x24 => ((x22 = x24) → (K τ23)) ∧ ((¬ x22 = x24) → False)))
set_option maxHeartbeats 4000000 in
set_option maxRecDepth 100000 in
theorem cl_19 {w : WPar} {g : Cxt} {τ : TS} {b : Nat} {xs : Nat → Int32} (C : Cok w g cL_law RL wsL_law 9 14 560 600002 7302232) (D : CX w g) (N3 : tp_N3g g) (S : CS w g b 5 xs) (hl : w.2.1.stackTraces = false) (hN : tp_N w = 504) (h1 : tp_is w 0 7) (h2 : tp_is w 234 20) (h3 : tp_is w 503 33) (K : TS → Prop) (hK : ∀ τ2, K τ2 → Zt w g τ2 (512, 23300) 2739 [(4, .int 0), (3, .ref (w.1 503)), (2, .ref (w.1 234)), (1, .ref (w.1 0)), (0, .ref b)] []) (hw : wl_19 τ xs K) : Zt w g τ (504, 23236) 1303 [(4, .int 0), (3, .ref (w.1 503)), (2, .ref (w.1 234)), (1, .ref (w.1 0)), (0, .ref b)] [] := by
  unfold wl_19 at hw
  refine z_aload_n C 3 (by rfl) dL_law_1303 ?_
  refine zv_i C (As := []) (bytes := cX8_underWay) (maxL := 3) (F1 := 0) (L1 := 0) (c_X8_underWay w _ 0 _ h1 hw) h1.2 (tE7 h1.1) rfl 0 gL_law_X8_underWay rfl (by decide +kernel) ⟨Nat.le_of_ble_eq_true rfl, Nat.le_of_ble_eq_true rfl⟩ rfl (Nat.le_of_ble_eq_true rfl) ⟨Nat.le_of_ble_eq_true rfl, Nat.le_of_ble_eq_true rfl⟩ rfl dL_law_1304 (fun x22 τ21 hw => ?_)
  refine z_aload_n C 2 (by rfl) dL_law_1307 ?_
  refine zv_i C (As := []) (bytes := cX11_underWay) (maxL := 1) (F1 := 1) (L1 := 22) (c_X11_underWay w _ 234 _ h2 hw) h2.2 (tE20 h2.1) rfl 0 gL_law_X11_underWay rfl (by decide +kernel) ⟨Nat.le_of_ble_eq_true rfl, Nat.le_of_ble_eq_true rfl⟩ rfl (Nat.le_of_ble_eq_true rfl) ⟨Nat.le_of_ble_eq_true rfl, Nat.le_of_ble_eq_true rfl⟩ rfl dL_law_1308 (fun x24 τ23 hw => ?_)
  refine z_icmp_eq (tgt := 2739) C dL_law_1311 (by decide) (fun c25 => ?_) (fun c25 => ?_)
  · have hw := hw.1 c25
    refine z_widen (512, 23300) (Nat.le_of_ble_eq_true rfl) (Nat.le_of_ble_eq_true rfl) ?_
    exact hK _ hw
  · have hw := hw.2 c25
    refine z_iconst C 0 (by decide) dL_law_1314 ?_
    exact hw.elim
def wl_20 (τ : TS) (xs : Nat → Int32) (K : TS → Prop) : Prop :=
  wp_X8_connections τ 0 (fun τ21 x22 => wp_X11_connections τ21 234 (fun τ23 x24 => ((x22 = x24) → (K τ23)) ∧ ((¬ x22 = x24) → False)))
set_option maxHeartbeats 4000000 in
set_option maxRecDepth 100000 in
theorem cl_20 {w : WPar} {g : Cxt} {τ : TS} {b : Nat} {xs : Nat → Int32} (C : Cok w g cL_law RL wsL_law 9 14 560 600002 7302232) (D : CX w g) (N3 : tp_N3g g) (S : CS w g b 5 xs) (hl : w.2.1.stackTraces = false) (hN : tp_N w = 504) (h1 : tp_is w 0 7) (h2 : tp_is w 234 20) (h3 : tp_is w 503 33) (K : TS → Prop) (hK : ∀ τ2, K τ2 → Zt w g τ2 (512, 23300) 2739 [(4, .int 0), (3, .ref (w.1 503)), (2, .ref (w.1 234)), (1, .ref (w.1 0)), (0, .ref b)] []) (hw : wl_20 τ xs K) : Zt w g τ (504, 23236) 1316 [(4, .int 0), (3, .ref (w.1 503)), (2, .ref (w.1 234)), (1, .ref (w.1 0)), (0, .ref b)] [] := by
  unfold wl_20 at hw
  refine z_aload_n C 3 (by rfl) dL_law_1316 ?_
  refine zv_i C (As := []) (bytes := cX8_connections) (maxL := 1) (F1 := 0) (L1 := 0) (c_X8_connections w _ 0 _ h1 hw) h1.2 (tE7 h1.1) rfl 0 gL_law_X8_connections rfl (by decide +kernel) ⟨Nat.le_of_ble_eq_true rfl, Nat.le_of_ble_eq_true rfl⟩ rfl (Nat.le_of_ble_eq_true rfl) ⟨Nat.le_of_ble_eq_true rfl, Nat.le_of_ble_eq_true rfl⟩ rfl dL_law_1317 (fun x22 τ21 hw => ?_)
  refine z_aload_n C 2 (by rfl) dL_law_1320 ?_
  refine zv_i C (As := []) (bytes := cX11_connections) (maxL := 1) (F1 := 0) (L1 := 0) (c_X11_connections w _ 234 _ h2 hw) h2.2 (tE20 h2.1) rfl 0 gL_law_X11_connections rfl (by decide +kernel) ⟨Nat.le_of_ble_eq_true rfl, Nat.le_of_ble_eq_true rfl⟩ rfl (Nat.le_of_ble_eq_true rfl) ⟨Nat.le_of_ble_eq_true rfl, Nat.le_of_ble_eq_true rfl⟩ rfl dL_law_1321 (fun x24 τ23 hw => ?_)
  refine z_icmp_eq (tgt := 2739) C dL_law_1324 (by decide) (fun c25 => ?_) (fun c25 => ?_)
  · have hw := hw.1 c25
    refine z_widen (512, 23300) (Nat.le_of_ble_eq_true rfl) (Nat.le_of_ble_eq_true rfl) ?_
    exact hK _ hw
  · have hw := hw.2 c25
    refine z_iconst C 0 (by decide) dL_law_1327 ?_
    exact hw.elim
def wl_21 (τ : TS) (xs : Nat → Int32) (K : TS → Prop) : Prop :=
  wp_L_stateOf τ 0 (xs 1) 503 (fun τ21 x22 => wp_X11_stateOf τ21 234 (xs 1) (fun τ23 x24 => wp_X11_thrown τ23 234 (fun τ25 x26 => ((x26 = x22) → (((¬ x22 = 0) → (K τ25)) ∧ ((x22 = 0) → ((((lg_cmp (tp_jl (τ25 503 0) (τ25 503 1)) (Int32.toInt64 x24)) = 0) → (K τ25)) ∧ ((¬ (lg_cmp (tp_jl (τ25 503 0) (τ25 503 1)) (Int32.toInt64 x24)) = 0) → False))))) ∧ ((¬ x26 = x22) → False))))
set_option maxHeartbeats 4000000 in
set_option maxRecDepth 100000 in
theorem cl_21 {w : WPar} {g : Cxt} {τ : TS} {b : Nat} {xs : Nat → Int32} (C : Cok w g cL_law RL wsL_law 9 14 560 600002 7302232) (D : CX w g) (N3 : tp_N3g g) (S : CS w g b 5 xs) (hl : w.2.1.stackTraces = false) (hN : tp_N w = 504) (h1 : tp_is w 0 7) (h2 : tp_is w 234 20) (h3 : tp_is w 503 33) (K : TS → Prop) (hK : ∀ τ2, K τ2 → Zt w g τ2 (512, 23300) 2739 [(4, .int 0), (3, .ref (w.1 503)), (2, .ref (w.1 234)), (1, .ref (w.1 0)), (0, .ref b)] []) (hw : wl_21 τ xs K) : Zt w g τ (504, 23236) 1329 [(4, .int 0), (3, .ref (w.1 503)), (2, .ref (w.1 234)), (1, .ref (w.1 0)), (0, .ref b)] [] := by
  unfold wl_21 at hw
  refine z_aload_n C 3 (by rfl) dL_law_1329 ?_
  refine z_aload_n C 4 (by rfl) dL_law_1330 ?_
  refine z_iload C 0 (by rfl) dL_law_1331 ?_
  refine z_iconst C 1 (by decide) dL_law_1333 ?_
  refine z_iadd C dL_law_1334 ?_
  refine z_sldn C S 1 (by decide) (by unfold vp_in; decide) dL_law_1335 ?_
  refine z_aload_n C 1 (by rfl) dL_law_1336 ?_
  refine zs_act C D N3 (hh := [(0, 9, 12, 19)]) (As := [.ref (w.1 0), .int (xs 1), .ref (w.1 503)]) (bytes := cL_stateOf) (maxL := 4) (F1 := 9) (L1 := 145) (mc := 1) (ms := 6) (c_L_stateOf w _ 0 (xs 1) 503 _ hl h1 h3 hw) 3 gL_law_L_stateOf rfl (by decide +kernel) ⟨Nat.le_of_ble_eq_true rfl, Nat.le_of_ble_eq_true rfl⟩ rfl (Nat.le_of_ble_eq_true rfl) (k2 := (505, 23242)) rfl ⟨Nat.le_of_ble_eq_true rfl, Nat.le_of_ble_eq_true rfl⟩ rfl dL_law_1337 (fun x22 τ21 hw => ?_)
  refine z_istore C [(5, .int x22), (4, .int 0), (3, .ref (w.1 503)), (2, .ref (w.1 234)), (1, .ref (w.1 0)), (0, .ref b)] dL_law_1340 (by decide) rfl ?_
  refine z_aload_n C 3 (by rfl) dL_law_1342 ?_
  refine z_aload_n C 5 (by rfl) dL_law_1343 ?_
  refine z_iload C 1 (by rfl) dL_law_1344 ?_
  refine z_iconst C 1 (by decide) dL_law_1346 ?_
  refine z_iadd C dL_law_1347 ?_
  refine z_sldn C S 1 (by decide) (by unfold vp_in; decide) dL_law_1348 ?_
  refine zv_i C (As := [.int (xs 1)]) (bytes := cX11_stateOf) (maxL := 2) (F1 := 3) (L1 := 65) (c_X11_stateOf w _ 234 (xs 1) _ h2 hw) h2.2 (tE20 h2.1) rfl 1 gL_law_X11_stateOf rfl (by decide +kernel) ⟨Nat.le_of_ble_eq_true rfl, Nat.le_of_ble_eq_true rfl⟩ rfl (Nat.le_of_ble_eq_true rfl) ⟨Nat.le_of_ble_eq_true rfl, Nat.le_of_ble_eq_true rfl⟩ rfl dL_law_1349 (fun x24 τ23 hw => ?_)
  refine z_istore C [(6, .int x24), (5, .int x22), (4, .int 0), (3, .ref (w.1 503)), (2, .ref (w.1 234)), (1, .ref (w.1 0)), (0, .ref b)] dL_law_1352 (by decide) rfl ?_
  refine z_aload_n C 4 (by rfl) dL_law_1354 ?_
  refine zv_i C (As := []) (bytes := cX11_thrown) (maxL := 1) (F1 := 0) (L1 := 0) (c_X11_thrown w _ 234 _ h2 hw) h2.2 (tE20 h2.1) rfl 0 gL_law_X11_thrown rfl (by decide +kernel) ⟨Nat.le_of_ble_eq_true rfl, Nat.le_of_ble_eq_true rfl⟩ rfl (Nat.le_of_ble_eq_true rfl) ⟨Nat.le_of_ble_eq_true rfl, Nat.le_of_ble_eq_true rfl⟩ rfl dL_law_1355 (fun x26 τ25 hw => ?_)
  refine z_iload C 1 (by rfl) dL_law_1358 ?_
  refine z_icmp_eq (tgt := 1365) C dL_law_1360 (by decide) (fun c27 => ?_) (fun c27 => ?_)
  · have hw := hw.1 c27
    refine z_iload C 1 (by rfl) dL_law_1365 ?_
    refine z_if_ne (tgt := 1382) C dL_law_1367 (by decide) (fun c28 => ?_) (fun c28 => ?_)
    · have hw := hw.1 c28
      refine z_goto (tgt := 2739) C dL_law_1382 (by decide) ?_
      refine z_widen (512, 23300) (Nat.le_of_ble_eq_true rfl) (Nat.le_of_ble_eq_true rfl) ?_
      refine z_sub [2, 3, 4, 5, 6] [(4, .int 0), (3, .ref (w.1 503)), (2, .ref (w.1 234)), (1, .ref (w.1 0)), (0, .ref b)] rfl ?_
      exact hK _ hw
    · have hw := hw.2 c28
      refine z_aload_n C 3 (by rfl) dL_law_1370 ?_
      refine z_iconst C 0 (by decide) dL_law_1371 ?_
      refine z_lald C (x := 0) h3 (by unfold vp_in; decide) dL_law_1372 ?_
      refine z_iload C 0 (by rfl) dL_law_1373 ?_
      refine z_i2l C dL_law_1375 ?_
      refine z_lcmp C dL_law_1376 ?_
      refine z_if_eq (tgt := 1382) C dL_law_1377 (by decide) (fun c29 => ?_) (fun c29 => ?_)
      · have hw := hw.1 c29
        refine z_goto (tgt := 2739) C dL_law_1382 (by decide) ?_
        refine z_widen (512, 23300) (Nat.le_of_ble_eq_true rfl) (Nat.le_of_ble_eq_true rfl) ?_
        refine z_sub [2, 3, 4, 5, 6] [(4, .int 0), (3, .ref (w.1 503)), (2, .ref (w.1 234)), (1, .ref (w.1 0)), (0, .ref b)] rfl ?_
        exact hK _ hw
      · have hw := hw.2 c29
        refine z_iconst C 0 (by decide) dL_law_1380 ?_
        exact hw.elim
  · have hw := hw.2 c27
    refine z_iconst C 0 (by decide) dL_law_1363 ?_
    exact hw.elim
def wl_22 (τ : TS) (xs : Nat → Int32) (K : TS → Prop) : Prop :=
  wp_L_given τ 0 (xs 1) 503 (fun τ21 x22 => wp_X11_given τ21 234 (xs 1) (fun τ23 x24 => wp_X11_thrown τ23 234 (fun τ25 x26 => ((x26 = x22) → (((¬ x22 = 0) → (K τ25)) ∧ ((x22 = 0) → ((((lg_cmp (tp_jl (τ25 503 0) (τ25 503 1)) (Int32.toInt64 x24)) = 0) → (K τ25)) ∧ ((¬ (lg_cmp (tp_jl (τ25 503 0) (τ25 503 1)) (Int32.toInt64 x24)) = 0) → False))))) ∧ ((¬ x26 = x22) → False))))
set_option maxHeartbeats 4000000 in
set_option maxRecDepth 100000 in
theorem cl_22 {w : WPar} {g : Cxt} {τ : TS} {b : Nat} {xs : Nat → Int32} (C : Cok w g cL_law RL wsL_law 9 14 560 600002 7302232) (D : CX w g) (N3 : tp_N3g g) (S : CS w g b 5 xs) (hl : w.2.1.stackTraces = false) (hN : tp_N w = 504) (h1 : tp_is w 0 7) (h2 : tp_is w 234 20) (h3 : tp_is w 503 33) (K : TS → Prop) (hK : ∀ τ2, K τ2 → Zt w g τ2 (512, 23300) 2739 [(4, .int 0), (3, .ref (w.1 503)), (2, .ref (w.1 234)), (1, .ref (w.1 0)), (0, .ref b)] []) (hw : wl_22 τ xs K) : Zt w g τ (504, 23236) 1385 [(4, .int 0), (3, .ref (w.1 503)), (2, .ref (w.1 234)), (1, .ref (w.1 0)), (0, .ref b)] [] := by
  unfold wl_22 at hw
  refine z_aload_n C 3 (by rfl) dL_law_1385 ?_
  refine z_aload_n C 4 (by rfl) dL_law_1386 ?_
  refine z_iload C 0 (by rfl) dL_law_1387 ?_
  refine z_iconst C 1 (by decide) dL_law_1389 ?_
  refine z_iadd C dL_law_1390 ?_
  refine z_sldn C S 1 (by decide) (by unfold vp_in; decide) dL_law_1391 ?_
  refine z_aload_n C 1 (by rfl) dL_law_1392 ?_
  refine zs_act C D N3 (hh := [(0, 9, 12, 19)]) (As := [.ref (w.1 0), .int (xs 1), .ref (w.1 503)]) (bytes := cL_given) (maxL := 4) (F1 := 9) (L1 := 145) (mc := 1) (ms := 6) (c_L_given w _ 0 (xs 1) 503 _ hl h1 h3 hw) 3 gL_law_L_given rfl (by decide +kernel) ⟨Nat.le_of_ble_eq_true rfl, Nat.le_of_ble_eq_true rfl⟩ rfl (Nat.le_of_ble_eq_true rfl) (k2 := (505, 23242)) rfl ⟨Nat.le_of_ble_eq_true rfl, Nat.le_of_ble_eq_true rfl⟩ rfl dL_law_1393 (fun x22 τ21 hw => ?_)
  refine z_istore C [(5, .int x22), (4, .int 0), (3, .ref (w.1 503)), (2, .ref (w.1 234)), (1, .ref (w.1 0)), (0, .ref b)] dL_law_1396 (by decide) rfl ?_
  refine z_aload_n C 3 (by rfl) dL_law_1398 ?_
  refine z_aload_n C 5 (by rfl) dL_law_1399 ?_
  refine z_iload C 1 (by rfl) dL_law_1400 ?_
  refine z_iconst C 1 (by decide) dL_law_1402 ?_
  refine z_iadd C dL_law_1403 ?_
  refine z_sldn C S 1 (by decide) (by unfold vp_in; decide) dL_law_1404 ?_
  refine zv_i C (As := [.int (xs 1)]) (bytes := cX11_given) (maxL := 2) (F1 := 3) (L1 := 65) (c_X11_given w _ 234 (xs 1) _ h2 hw) h2.2 (tE20 h2.1) rfl 1 gL_law_X11_given rfl (by decide +kernel) ⟨Nat.le_of_ble_eq_true rfl, Nat.le_of_ble_eq_true rfl⟩ rfl (Nat.le_of_ble_eq_true rfl) ⟨Nat.le_of_ble_eq_true rfl, Nat.le_of_ble_eq_true rfl⟩ rfl dL_law_1405 (fun x24 τ23 hw => ?_)
  refine z_istore C [(6, .int x24), (5, .int x22), (4, .int 0), (3, .ref (w.1 503)), (2, .ref (w.1 234)), (1, .ref (w.1 0)), (0, .ref b)] dL_law_1408 (by decide) rfl ?_
  refine z_aload_n C 4 (by rfl) dL_law_1410 ?_
  refine zv_i C (As := []) (bytes := cX11_thrown) (maxL := 1) (F1 := 0) (L1 := 0) (c_X11_thrown w _ 234 _ h2 hw) h2.2 (tE20 h2.1) rfl 0 gL_law_X11_thrown rfl (by decide +kernel) ⟨Nat.le_of_ble_eq_true rfl, Nat.le_of_ble_eq_true rfl⟩ rfl (Nat.le_of_ble_eq_true rfl) ⟨Nat.le_of_ble_eq_true rfl, Nat.le_of_ble_eq_true rfl⟩ rfl dL_law_1411 (fun x26 τ25 hw => ?_)
  refine z_iload C 1 (by rfl) dL_law_1414 ?_
  refine z_icmp_eq (tgt := 1421) C dL_law_1416 (by decide) (fun c27 => ?_) (fun c27 => ?_)
  · have hw := hw.1 c27
    refine z_iload C 1 (by rfl) dL_law_1421 ?_
    refine z_if_ne (tgt := 1438) C dL_law_1423 (by decide) (fun c28 => ?_) (fun c28 => ?_)
    · have hw := hw.1 c28
      refine z_goto (tgt := 2739) C dL_law_1438 (by decide) ?_
      refine z_widen (512, 23300) (Nat.le_of_ble_eq_true rfl) (Nat.le_of_ble_eq_true rfl) ?_
      refine z_sub [2, 3, 4, 5, 6] [(4, .int 0), (3, .ref (w.1 503)), (2, .ref (w.1 234)), (1, .ref (w.1 0)), (0, .ref b)] rfl ?_
      exact hK _ hw
    · have hw := hw.2 c28
      refine z_aload_n C 3 (by rfl) dL_law_1426 ?_
      refine z_iconst C 0 (by decide) dL_law_1427 ?_
      refine z_lald C (x := 0) h3 (by unfold vp_in; decide) dL_law_1428 ?_
      refine z_iload C 0 (by rfl) dL_law_1429 ?_
      refine z_i2l C dL_law_1431 ?_
      refine z_lcmp C dL_law_1432 ?_
      refine z_if_eq (tgt := 1438) C dL_law_1433 (by decide) (fun c29 => ?_) (fun c29 => ?_)
      · have hw := hw.1 c29
        refine z_goto (tgt := 2739) C dL_law_1438 (by decide) ?_
        refine z_widen (512, 23300) (Nat.le_of_ble_eq_true rfl) (Nat.le_of_ble_eq_true rfl) ?_
        refine z_sub [2, 3, 4, 5, 6] [(4, .int 0), (3, .ref (w.1 503)), (2, .ref (w.1 234)), (1, .ref (w.1 0)), (0, .ref b)] rfl ?_
        exact hK _ hw
      · have hw := hw.2 c29
        refine z_iconst C 0 (by decide) dL_law_1436 ?_
        exact hw.elim
  · have hw := hw.2 c27
    refine z_iconst C 0 (by decide) dL_law_1419 ?_
    exact hw.elim
def wl_23 (τ : TS) (xs : Nat → Int32) (K : TS → Prop) : Prop :=
  wp_L_base τ 0 (xs 1) 503 (fun τ21 x22 => wp_X11_base τ21 234 (xs 1) (fun τ23 x24 => wp_X11_thrown τ23 234 (fun τ25 x26 => ((x26 = x22) → (((¬ x22 = 0) → (K τ25)) ∧ ((x22 = 0) → ((((lg_cmp (tp_jl (τ25 503 0) (τ25 503 1)) (Int32.toInt64 x24)) = 0) → (K τ25)) ∧ ((¬ (lg_cmp (tp_jl (τ25 503 0) (τ25 503 1)) (Int32.toInt64 x24)) = 0) → False))))) ∧ ((¬ x26 = x22) → False))))
set_option maxHeartbeats 4000000 in
set_option maxRecDepth 100000 in
theorem cl_23 {w : WPar} {g : Cxt} {τ : TS} {b : Nat} {xs : Nat → Int32} (C : Cok w g cL_law RL wsL_law 9 14 560 600002 7302232) (D : CX w g) (N3 : tp_N3g g) (S : CS w g b 5 xs) (hl : w.2.1.stackTraces = false) (hN : tp_N w = 504) (h1 : tp_is w 0 7) (h2 : tp_is w 234 20) (h3 : tp_is w 503 33) (K : TS → Prop) (hK : ∀ τ2, K τ2 → Zt w g τ2 (512, 23300) 2739 [(4, .int 0), (3, .ref (w.1 503)), (2, .ref (w.1 234)), (1, .ref (w.1 0)), (0, .ref b)] []) (hw : wl_23 τ xs K) : Zt w g τ (504, 23236) 1441 [(4, .int 0), (3, .ref (w.1 503)), (2, .ref (w.1 234)), (1, .ref (w.1 0)), (0, .ref b)] [] := by
  unfold wl_23 at hw
  refine z_aload_n C 3 (by rfl) dL_law_1441 ?_
  refine z_aload_n C 4 (by rfl) dL_law_1442 ?_
  refine z_iload C 0 (by rfl) dL_law_1443 ?_
  refine z_iconst C 1 (by decide) dL_law_1445 ?_
  refine z_iadd C dL_law_1446 ?_
  refine z_sldn C S 1 (by decide) (by unfold vp_in; decide) dL_law_1447 ?_
  refine z_aload_n C 1 (by rfl) dL_law_1448 ?_
  refine zs_act C D N3 (hh := [(0, 9, 12, 19)]) (As := [.ref (w.1 0), .int (xs 1), .ref (w.1 503)]) (bytes := cL_base) (maxL := 4) (F1 := 9) (L1 := 145) (mc := 1) (ms := 6) (c_L_base w _ 0 (xs 1) 503 _ hl h1 h3 hw) 3 gL_law_L_base rfl (by decide +kernel) ⟨Nat.le_of_ble_eq_true rfl, Nat.le_of_ble_eq_true rfl⟩ rfl (Nat.le_of_ble_eq_true rfl) (k2 := (505, 23242)) rfl ⟨Nat.le_of_ble_eq_true rfl, Nat.le_of_ble_eq_true rfl⟩ rfl dL_law_1449 (fun x22 τ21 hw => ?_)
  refine z_istore C [(5, .int x22), (4, .int 0), (3, .ref (w.1 503)), (2, .ref (w.1 234)), (1, .ref (w.1 0)), (0, .ref b)] dL_law_1452 (by decide) rfl ?_
  refine z_aload_n C 3 (by rfl) dL_law_1454 ?_
  refine z_aload_n C 5 (by rfl) dL_law_1455 ?_
  refine z_iload C 1 (by rfl) dL_law_1456 ?_
  refine z_iconst C 1 (by decide) dL_law_1458 ?_
  refine z_iadd C dL_law_1459 ?_
  refine z_sldn C S 1 (by decide) (by unfold vp_in; decide) dL_law_1460 ?_
  refine zv_i C (As := [.int (xs 1)]) (bytes := cX11_base) (maxL := 2) (F1 := 3) (L1 := 65) (c_X11_base w _ 234 (xs 1) _ h2 hw) h2.2 (tE20 h2.1) rfl 1 gL_law_X11_base rfl (by decide +kernel) ⟨Nat.le_of_ble_eq_true rfl, Nat.le_of_ble_eq_true rfl⟩ rfl (Nat.le_of_ble_eq_true rfl) ⟨Nat.le_of_ble_eq_true rfl, Nat.le_of_ble_eq_true rfl⟩ rfl dL_law_1461 (fun x24 τ23 hw => ?_)
  refine z_istore C [(6, .int x24), (5, .int x22), (4, .int 0), (3, .ref (w.1 503)), (2, .ref (w.1 234)), (1, .ref (w.1 0)), (0, .ref b)] dL_law_1464 (by decide) rfl ?_
  refine z_aload_n C 4 (by rfl) dL_law_1466 ?_
  refine zv_i C (As := []) (bytes := cX11_thrown) (maxL := 1) (F1 := 0) (L1 := 0) (c_X11_thrown w _ 234 _ h2 hw) h2.2 (tE20 h2.1) rfl 0 gL_law_X11_thrown rfl (by decide +kernel) ⟨Nat.le_of_ble_eq_true rfl, Nat.le_of_ble_eq_true rfl⟩ rfl (Nat.le_of_ble_eq_true rfl) ⟨Nat.le_of_ble_eq_true rfl, Nat.le_of_ble_eq_true rfl⟩ rfl dL_law_1467 (fun x26 τ25 hw => ?_)
  refine z_iload C 1 (by rfl) dL_law_1470 ?_
  refine z_icmp_eq (tgt := 1477) C dL_law_1472 (by decide) (fun c27 => ?_) (fun c27 => ?_)
  · have hw := hw.1 c27
    refine z_iload C 1 (by rfl) dL_law_1477 ?_
    refine z_if_ne (tgt := 1494) C dL_law_1479 (by decide) (fun c28 => ?_) (fun c28 => ?_)
    · have hw := hw.1 c28
      refine z_goto (tgt := 2739) C dL_law_1494 (by decide) ?_
      refine z_widen (512, 23300) (Nat.le_of_ble_eq_true rfl) (Nat.le_of_ble_eq_true rfl) ?_
      refine z_sub [2, 3, 4, 5, 6] [(4, .int 0), (3, .ref (w.1 503)), (2, .ref (w.1 234)), (1, .ref (w.1 0)), (0, .ref b)] rfl ?_
      exact hK _ hw
    · have hw := hw.2 c28
      refine z_aload_n C 3 (by rfl) dL_law_1482 ?_
      refine z_iconst C 0 (by decide) dL_law_1483 ?_
      refine z_lald C (x := 0) h3 (by unfold vp_in; decide) dL_law_1484 ?_
      refine z_iload C 0 (by rfl) dL_law_1485 ?_
      refine z_i2l C dL_law_1487 ?_
      refine z_lcmp C dL_law_1488 ?_
      refine z_if_eq (tgt := 1494) C dL_law_1489 (by decide) (fun c29 => ?_) (fun c29 => ?_)
      · have hw := hw.1 c29
        refine z_goto (tgt := 2739) C dL_law_1494 (by decide) ?_
        refine z_widen (512, 23300) (Nat.le_of_ble_eq_true rfl) (Nat.le_of_ble_eq_true rfl) ?_
        refine z_sub [2, 3, 4, 5, 6] [(4, .int 0), (3, .ref (w.1 503)), (2, .ref (w.1 234)), (1, .ref (w.1 0)), (0, .ref b)] rfl ?_
        exact hK _ hw
      · have hw := hw.2 c29
        refine z_iconst C 0 (by decide) dL_law_1492 ?_
        exact hw.elim
  · have hw := hw.2 c27
    refine z_iconst C 0 (by decide) dL_law_1475 ?_
    exact hw.elim
