theorem z_lconst {w : WPar} {g : Cxt} {τ : TS} {k : Nat × Nat} {pc : Nat} {ls : List (Nat × Value)} {st : List Value} {cc : ByteArray} {own : String} {Ts : List Cond} {n F L Ce Sl : Nat} (C : Cok w g cc own Ts n F L Ce Sl) {q : Fin 2} (v : Int64) (hv : Int64.ofNat (q : Nat) = v) (hdg : decode cc pc = .ok (.lconst q, 1)) (kk : Zt w g τ k (pc + 1) ls (.long v :: st)) : Zt w g τ k pc ls st := by
  obtain ⟨p, e, R, s, m, args, below, meth, c, Q, nL⟩ := g
  obtain ⟨hx, hb, -⟩ := C
  exact fun H locs la hl hP hS => lv_lconst hx hb hdg hv (kk H locs la hl hP hS)
