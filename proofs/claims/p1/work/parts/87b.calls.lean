theorem pT_t0 : pT tp_t0 := by
  have z : ∀ (i k : Nat), tp_kd i = k → k ≠ 9 → ∀ q, tp_t0 i q = 0 := fun i k h h2 q => by rw [tp_t0z h h2]
  have h27 : ∀ k : Fin 6, tp_kd (269 + k.val) = 30 := by decide +kernel
  have h31 : ∀ k : Fin 48, tp_kd (275 + 2 * k.val) = 31 := by decide +kernel
  exact ⟨⟨z 1 3 (by decide) (by decide) _, z 1 3 (by decide) (by decide) _, z 17 5 (by decide) (by decide) _, z 234 20 (by decide) (by decide) _, z 234 20 (by decide) (by decide) _, z 239 21 (by decide) (by decide) _⟩, ⟨z 240 12 (by decide) (by decide), fun k hk => z _ 30 (h27 ⟨k, hk⟩) (by decide), fun k hk => z _ 31 (h31 ⟨k, hk⟩) (by decide) _⟩, z 17 5 (by decide) (by decide) _, z 239 21 (by decide) (by decide) _, z 17 5 (by decide) (by decide) _, z 239 21 (by decide) (by decide) _⟩
/-- the growing world, once it is whole -/
theorem tp_bridge {w w2 : WPar} {p : Program} {e : Env} {R : Room} {s : State} {m : MethodId} {args : Array Value} {below : List Frame} {meth : Method} {c : Code} {Q : State → Prop} {nL : Nat} {u : va_W} {k : Nat × Nat} {pc : Nat} {ls : List (Nat × Value)} {st : List Value} (hu : u = tp_W w2 tp_t0) (hD : tp_D w2 = tp_D w) (hl : w2.2.1 = w.2.1)
    (kk : tp_inj w2 → (∀ i, i < tp_N w2 → s.heap.size ≤ w2.1 i) → Zt w2 (p, e, R, s, m, args, below, meth, c, Q, nL) tp_t0 k pc ls st) : Zg w (p, e, R, s, m, args, below, meth, c, Q, nL) (fun q => s.heap.size ≤ q) u k pc ls st := by
  subst hu
  intro H locs la hla hP hD2 hS
  have h1 : tp_inj w2 := fun i j hi hj h => hD2.1 i j _ _ (tp_at hi) (tp_at hj) h
  have h2 : ∀ i, i < tp_N w2 → s.heap.size ≤ w2.1 i := fun i hi => hD2.2 i _ (tp_at hi)
  have hA : tp_A w2 s.heap.size = fun q => s.heap.size ≤ q := by
    funext q
    apply propext
    constructor
    · rintro (⟨i, hi, rfl⟩ | h)
      · exact h2 i hi
      · exact h
    · exact fun h => Or.inr h
  have hz := kk h1 h2 H locs la hla (by rw [hD]; exact hP) (by rw [hA]; exact hS)
  rw [hl] at hz
  exact hz
section WT
variable {w : WPar} {g : Cxt} {τ : TS} {b : Nat} {xs : Nat → Int32}
theorem tp_out (C : Cok w g cL_law RL wsL_law 9 14 560 600002 7302232) (hE : ∀ (τ : TS) (k : Nat × Nat) (ls : List (Nat × Value)), k.1 ≤ 600002 → k.2 ≤ 7302232 → Zt w g τ k 2746 ls [.int 1]) {k : Nat × Nat} (h1 : k.1 ≤ 600002) (h2 : k.2 ≤ 7302232) {ls : List (Nat × Value)} : Zt w g τ k 2745 ls [] := by
  refine z_iconst C 1 (by decide) dL_law_2745 ?_
  exact hE _ _ _ h1 h2
/-- behind a call: five cells more are more than there are -/
theorem tp_back (C : Cok w g cL_law RL wsL_law 9 14 560 600002 7302232) (S : CS w g b 5 xs) (hE : ∀ (τ : TS) (k : Nat × Nat) (ls : List (Nat × Value)), k.1 ≤ 600002 → k.2 ≤ 7302232 → Zt w g τ k 2746 ls [.int 1]) {k : Nat × Nat} (h1 : k.1 ≤ 600002) (h2 : k.2 ≤ 7302232) : Zt w g τ k 2739 [(4, .int 0), (3, .ref (w.1 503)), (2, .ref (w.1 234)), (1, .ref (w.1 0)), (0, .ref b)] [] := by
  refine z_iinc C 0 5 [(4, .int 5), (3, .ref (w.1 503)), (2, .ref (w.1 234)), (1, .ref (w.1 0)), (0, .ref b)] dL_law_2739 (by rfl) (by decide) (by decide) rfl ?_
  refine z_goto (tgt := 23) C dL_law_2742 (by decide) ?_
  refine z_iload C 0 (by rfl) dL_law_23 ?_
  refine z_aload_n C 4 (by rfl) dL_law_25 ?_
  refine z_slen C S dL_law_26 ?_
  refine z_iconst C 5 (by decide) dL_law_27 ?_
  refine z_isub C dL_law_28 ?_
  refine z_icmp_gt (tgt := 2745) C dL_law_29 (by decide) (fun _ => ?_) (fun c => absurd (by decide) c)
  exact tp_out C hE h1 h2
/-- the one call that a script of five holds -/
theorem tp_call (C : Cok w g cL_law RL wsL_law 9 14 560 600002 7302232) (D : CX w g) (N3 : tp_N3g g) (S : CS w g b 5 xs) (hl : w.2.1.stackTraces = false) (hN : tp_N w = 504) (hE : ∀ (τ : TS) (k : Nat × Nat) (ls : List (Nat × Value)), k.1 ≤ 600002 → k.2 ≤ 7302232 → Zt w g τ k 2746 ls [.int 1]) : Zt w g tp_t0 (504, 23236) 32 [(4, .int 0), (3, .ref (w.1 503)), (2, .ref (w.1 234)), (1, .ref (w.1 0)), (0, .ref b)] [] := by
  have h1 : tp_is w 0 7 := tp_ofk (show tp_kd 0 = 7 by decide) (by decide) (Nat.le_of_eq hN.symm)
  have h2 : tp_is w 234 20 := tp_ofk (show tp_kd 234 = 20 by decide) (by decide) (Nat.le_of_eq hN.symm)
  have h3 : tp_is w 503 33 := tp_ofk (show tp_kd 503 = 33 by decide) (by decide) (Nat.le_of_eq hN.symm)
  have hK : ∀ τ2 : TS, (fun _ : TS => True) τ2 → Zt w g τ2 (512, 23300) 2739 [(4, .int 0), (3, .ref (w.1 503)), (2, .ref (w.1 234)), (1, .ref (w.1 0)), (0, .ref b)] [] := fun _ _ => tp_back C S hE (by decide) (by decide)
  refine z_aload_n C 4 (by rfl) dL_law_32 ?_
  refine z_iload C 0 (by rfl) dL_law_33 ?_
  refine z_sldn C S 0 (by decide) (by unfold vp_in; decide) dL_law_35 ?_
  refine z_bipush C 63 (by decide) dL_law_36 ?_
  refine z_iand C dL_law_38 ?_
  have hsw := tp_sw46 (xs 0 &&& 63)
  rcases hsw with q | q | q | q | q | q | q | q | q | q | q | q | q | q | q | q | q | q | q | q | q | q | q | q | q | q | q | q | q | q | q | q | q | q | q | q | q | q | q | q | q | q | q | q | q | q | q
  · refine z_swOut (tgt := 2739) C dL_law_39 q (by decide) ?_
    exact tp_back C S hE (by decide) (by decide)
  · rw [q]
    refine z_swIn (tgt := 236) C dL_law_39 (by decide) (by decide) (by rfl) (by decide) ?_
    exact cl_0 C D N3 S hl hN h1 h2 h3 _ hK (wk_0 pT_t0 xs)
  · rw [q]
    refine z_swIn (tgt := 280) C dL_law_39 (by decide) (by decide) (by rfl) (by decide) ?_
    exact cl_1 C D N3 S hl hN h1 h2 h3 _ hK (wk_1 pT_t0.1 xs)
  · rw [q]
    refine z_swIn (tgt := 372) C dL_law_39 (by decide) (by decide) (by rfl) (by decide) ?_
    exact cl_2 C D N3 S hl hN h1 h2 h3 _ hK (wk_2 pT_t0.1 xs)
  · rw [q]
    refine z_swIn (tgt := 428) C dL_law_39 (by decide) (by decide) (by rfl) (by decide) ?_
    exact cl_3 C D N3 S hl hN h1 h2 h3 _ hK (wk_3 pT_t0.1 xs)
  · rw [q]
    refine z_swIn (tgt := 508) C dL_law_39 (by decide) (by decide) (by rfl) (by decide) ?_
    exact cl_4 C D N3 S hl hN h1 h2 h3 _ hK (wk_4 pT_t0.1 xs)
  · rw [q]
    refine z_swIn (tgt := 588) C dL_law_39 (by decide) (by decide) (by rfl) (by decide) ?_
    exact cl_5 C D N3 S hl hN h1 h2 h3 _ hK (wk_5 pT_t0.1 xs)
  · rw [q]
    refine z_swIn (tgt := 668) C dL_law_39 (by decide) (by decide) (by rfl) (by decide) ?_
    exact cl_6 C D N3 S hl hN h1 h2 h3 _ hK (wk_6 pT_t0.1 xs)
  · rw [q]
    refine z_swIn (tgt := 724) C dL_law_39 (by decide) (by decide) (by rfl) (by decide) ?_
    exact cl_7 C D N3 S hl hN h1 h2 h3 _ hK (wk_7 pT_t0.1 xs)
  · rw [q]
    refine z_swIn (tgt := 792) C dL_law_39 (by decide) (by decide) (by rfl) (by decide) ?_
    exact cl_8 C D N3 S hl hN h1 h2 h3 _ hK (wk_8 pT_t0 xs)
  · rw [q]
    refine z_swIn (tgt := 848) C dL_law_39 (by decide) (by decide) (by rfl) (by decide) ?_
    exact cl_9 C D N3 S hl hN h1 h2 h3 _ hK (wk_9 pT_t0 xs)
  · rw [q]
    refine z_swIn (tgt := 861) C dL_law_39 (by decide) (by decide) (by rfl) (by decide) ?_
    exact cl_10 C D N3 S hl hN h1 h2 h3 _ hK (wk_10 pT_t0 xs)
  · rw [q]
    refine z_swIn (tgt := 874) C dL_law_39 (by decide) (by decide) (by rfl) (by decide) ?_
    exact cl_11 C D N3 S hl hN h1 h2 h3 _ hK (wk_11 pT_t0 xs)
  · rw [q]
    refine z_swIn (tgt := 887) C dL_law_39 (by decide) (by decide) (by rfl) (by decide) ?_
    exact cl_12 C D N3 S hl hN h1 h2 h3 _ hK (wk_12 pT_t0.1 xs)
  · rw [q]
    refine z_swIn (tgt := 950) C dL_law_39 (by decide) (by decide) (by rfl) (by decide) ?_
    exact cl_13 C D N3 S hl hN h1 h2 h3 _ hK (wk_13 pT_t0.1 xs)
  · rw [q]
    refine z_swIn (tgt := 1018) C dL_law_39 (by decide) (by decide) (by rfl) (by decide) ?_
    exact cl_14 C D N3 S hl hN h1 h2 h3 _ hK (wk_14 pT_t0.1 xs)
  · rw [q]
    refine z_swIn (tgt := 1086) C dL_law_39 (by decide) (by decide) (by rfl) (by decide) ?_
    exact cl_15 C D N3 S hl hN h1 h2 h3 _ hK (wk_15 pT_t0.1 xs)
  · rw [q]
    refine z_swIn (tgt := 1154) C dL_law_39 (by decide) (by decide) (by rfl) (by decide) ?_
    exact cl_16 C D N3 S hl hN h1 h2 h3 _ hK (wk_16 pT_t0.1 xs)
  · rw [q]
    refine z_swIn (tgt := 1222) C dL_law_39 (by decide) (by decide) (by rfl) (by decide) ?_
    exact cl_17 C D N3 S hl hN h1 h2 h3 _ hK (wk_17 pT_t0.1 xs)
  · rw [q]
    refine z_swIn (tgt := 1290) C dL_law_39 (by decide) (by decide) (by rfl) (by decide) ?_
    exact cl_18 C D N3 S hl hN h1 h2 h3 _ hK (wk_18 pT_t0 xs)
  · rw [q]
    refine z_swIn (tgt := 1303) C dL_law_39 (by decide) (by decide) (by rfl) (by decide) ?_
    exact cl_19 C D N3 S hl hN h1 h2 h3 _ hK (wk_19 pT_t0 xs)
  · rw [q]
    refine z_swIn (tgt := 1316) C dL_law_39 (by decide) (by decide) (by rfl) (by decide) ?_
    exact cl_20 C D N3 S hl hN h1 h2 h3 _ hK (wk_20 pT_t0 xs)
  · rw [q]
    refine z_swIn (tgt := 1329) C dL_law_39 (by decide) (by decide) (by rfl) (by decide) ?_
    exact cl_21 C D N3 S hl hN h1 h2 h3 _ hK (wk_21 pT_t0.1 xs)
  · rw [q]
    refine z_swIn (tgt := 1385) C dL_law_39 (by decide) (by decide) (by rfl) (by decide) ?_
    exact cl_22 C D N3 S hl hN h1 h2 h3 _ hK (wk_22 pT_t0.1 xs)
  · rw [q]
    refine z_swIn (tgt := 1441) C dL_law_39 (by decide) (by decide) (by rfl) (by decide) ?_
    exact cl_23 C D N3 S hl hN h1 h2 h3 _ hK (wk_23 pT_t0.1 xs)
  · rw [q]
    refine z_swIn (tgt := 1497) C dL_law_39 (by decide) (by decide) (by rfl) (by decide) ?_
    exact cl_24 C D N3 S hl hN h1 h2 h3 _ hK (wk_24 pT_t0.1 xs)
  · rw [q]
    refine z_swIn (tgt := 1553) C dL_law_39 (by decide) (by decide) (by rfl) (by decide) ?_
    exact cl_25 C D N3 S hl hN h1 h2 h3 _ hK (wk_25 pT_t0.1 xs)
  · rw [q]
    refine z_swIn (tgt := 1609) C dL_law_39 (by decide) (by decide) (by rfl) (by decide) ?_
    exact cl_26 C D N3 S hl hN h1 h2 h3 _ hK (wk_26 pT_t0.1 xs)
  · rw [q]
    refine z_swIn (tgt := 1665) C dL_law_39 (by decide) (by decide) (by rfl) (by decide) ?_
    exact cl_27 C D N3 S hl hN h1 h2 h3 _ hK (wk_27 pT_t0.1 xs)
  · rw [q]
    refine z_swIn (tgt := 1721) C dL_law_39 (by decide) (by decide) (by rfl) (by decide) ?_
    exact cl_28 C D N3 S hl hN h1 h2 h3 _ hK (wk_28 pT_t0.1 xs)
  · rw [q]
    refine z_swIn (tgt := 1777) C dL_law_39 (by decide) (by decide) (by rfl) (by decide) ?_
    exact cl_29 C D N3 S hl hN h1 h2 h3 _ hK (wk_29 pT_t0.1 xs)
  · rw [q]
    refine z_swIn (tgt := 1833) C dL_law_39 (by decide) (by decide) (by rfl) (by decide) ?_
    exact cl_30 C D N3 S hl hN h1 h2 h3 _ hK (wk_30 pT_t0.1 xs)
  · rw [q]
    refine z_swIn (tgt := 1889) C dL_law_39 (by decide) (by decide) (by rfl) (by decide) ?_
    exact cl_31 C D N3 S hl hN h1 h2 h3 _ hK (wk_31 pT_t0.1 xs)
  · rw [q]
    refine z_swIn (tgt := 1945) C dL_law_39 (by decide) (by decide) (by rfl) (by decide) ?_
    exact cl_32 C D N3 S hl hN h1 h2 h3 _ hK (wk_32 pT_t0.1 xs)
  · rw [q]
    refine z_swIn (tgt := 2001) C dL_law_39 (by decide) (by decide) (by rfl) (by decide) ?_
    exact cl_33 C D N3 S hl hN h1 h2 h3 _ hK (wk_33 pT_t0.1 xs)
  · rw [q]
    refine z_swIn (tgt := 2057) C dL_law_39 (by decide) (by decide) (by rfl) (by decide) ?_
    exact cl_34 C D N3 S hl hN h1 h2 h3 _ hK (wk_34 pT_t0.1 xs)
  · rw [q]
    refine z_swIn (tgt := 2113) C dL_law_39 (by decide) (by decide) (by rfl) (by decide) ?_
    exact cl_35 C D N3 S hl hN h1 h2 h3 _ hK (wk_35 pT_t0.1 xs)
  · rw [q]
    refine z_swIn (tgt := 2169) C dL_law_39 (by decide) (by decide) (by rfl) (by decide) ?_
    exact cl_36 C D N3 S hl hN h1 h2 h3 _ hK (wk_36 pT_t0.1 xs)
  · rw [q]
    refine z_swIn (tgt := 2225) C dL_law_39 (by decide) (by decide) (by rfl) (by decide) ?_
    exact cl_37 C D N3 S hl hN h1 h2 h3 _ hK (wk_37 pT_t0.1 xs)
  · rw [q]
    refine z_swIn (tgt := 2281) C dL_law_39 (by decide) (by decide) (by rfl) (by decide) ?_
    exact cl_38 C D N3 S hl hN h1 h2 h3 _ hK (wk_38 pT_t0.1 xs)
  · rw [q]
    refine z_swIn (tgt := 2356) C dL_law_39 (by decide) (by decide) (by rfl) (by decide) ?_
    exact cl_39 C D N3 S hl hN h1 h2 h3 _ hK (wk_39 pT_t0.1 xs)
  · rw [q]
    refine z_swIn (tgt := 2412) C dL_law_39 (by decide) (by decide) (by rfl) (by decide) ?_
    exact cl_40 C D N3 S hl hN h1 h2 h3 _ hK (wk_40 pT_t0.1 xs)
  · rw [q]
    refine z_swIn (tgt := 2468) C dL_law_39 (by decide) (by decide) (by rfl) (by decide) ?_
    exact cl_41 C D N3 S hl hN h1 h2 h3 _ hK (wk_41 pT_t0 xs)
  · rw [q]
    refine z_swIn (tgt := 2509) C dL_law_39 (by decide) (by decide) (by rfl) (by decide) ?_
    exact cl_42 C D N3 S hl hN h1 h2 h3 _ hK (wk_42 pT_t0.1 xs)
  · rw [q]
    refine z_swIn (tgt := 2589) C dL_law_39 (by decide) (by decide) (by rfl) (by decide) ?_
    exact cl_43 C D N3 S hl hN h1 h2 h3 _ hK (wk_43 pT_t0 xs)
  · rw [q]
    refine z_swIn (tgt := 2645) C dL_law_39 (by decide) (by decide) (by rfl) (by decide) ?_
    exact cl_44 C D N3 S hl hN h1 h2 h3 _ hK (wk_44 pT_t0.1 xs)
  · rw [q]
    refine z_swIn (tgt := 2725) C dL_law_39 (by decide) (by decide) (by rfl) (by decide) ?_
    exact cl_45 C D N3 S hl hN h1 h2 h3 _ hK (wk_45 pT_t0 xs)
end WT
