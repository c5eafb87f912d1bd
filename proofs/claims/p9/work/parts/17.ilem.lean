/-! A LEMMA AN INSTRUCTION: gw ahead of it out of gw behind it -/
theorem g_iconst {xs : List Int32} {d y : Nat} {Q : QT} {pc : Nat} {L : LoS} {st : List Value} {h : AH} {mc ms : Nat} {nx kd a b : Nat} {v : Int32} {n : Int} (hr : smI y pc = some (.iconst n, nx, kd, a, b, v))  (g : gw xs (WP xs d) y Q nx L (.int v :: st) h mc ms) : gw xs (WP xs d) y Q pc L st h mc ms := gs hr (by
  exact g)
theorem g_bipush {xs : List Int32} {d y : Nat} {Q : QT} {pc : Nat} {L : LoS} {st : List Value} {h : AH} {mc ms : Nat} {nx kd a b : Nat} {v : Int32} {n : Int} (hr : smI y pc = some (.bipush n, nx, kd, a, b, v))  (g : gw xs (WP xs d) y Q nx L (.int v :: st) h mc ms) : gw xs (WP xs d) y Q pc L st h mc ms := gs hr (by
  exact g)
theorem g_sipush {xs : List Int32} {d y : Nat} {Q : QT} {pc : Nat} {L : LoS} {st : List Value} {h : AH} {mc ms : Nat} {nx kd a b : Nat} {v : Int32} {n : Int} (hr : smI y pc = some (.sipush n, nx, kd, a, b, v))  (g : gw xs (WP xs d) y Q nx L (.int v :: st) h mc ms) : gw xs (WP xs d) y Q pc L st h mc ms := gs hr (by
  exact g)
theorem g_ldcw {xs : List Int32} {d y : Nat} {Q : QT} {pc : Nat} {L : LoS} {st : List Value} {h : AH} {mc ms : Nat} {nx kd a b : Nat} {v : Int32} {n : Nat} (hr : smI y pc = some (.ldc_w n, nx, kd, a, b, v))  (g : gw xs (WP xs d) y Q nx L (.int v :: st) h mc ms) : gw xs (WP xs d) y Q pc L st h mc ms := gs hr (by
  exact g)
theorem g_ldci {xs : List Int32} {d y : Nat} {Q : QT} {pc : Nat} {L : LoS} {st : List Value} {h : AH} {mc ms : Nat} {nx kd a b : Nat} {v : Int32} {n : Nat} (hr : smI y pc = some (.ldc n, nx, kd, a, b, v)) (ha : a = 0) (g : gw xs (WP xs d) y Q nx L (.int v :: st) h mc ms) : gw xs (WP xs d) y Q pc L st h mc ms := gs hr (by
  dsimp only [stp]
  rw [if_pos ha]
  exact g)
theorem g_ldcs {xs : List Int32} {d y : Nat} {Q : QT} {pc : Nat} {L : LoS} {st : List Value} {h : AH} {mc ms : Nat} {nx kd a b : Nat} {v : Int32} {n : Nat} (hr : smI y pc = some (.ldc n, nx, kd, a, b, v)) (ha : a ≠ 0) (g : gw xs (WP xs d) y Q nx L (.ref a :: st) h mc ms) : gw xs (WP xs d) y Q pc L st h mc ms := gs hr (by
  dsimp only [stp]
  rw [if_neg ha]
  exact g)
theorem g_ldc2 {xs : List Int32} {d y : Nat} {Q : QT} {pc : Nat} {L : LoS} {st : List Value} {h : AH} {mc ms : Nat} {nx kd a b : Nat} {v : Int32} {n : Nat} (hr : smI y pc = some (.ldc2_w n, nx, kd, a, b, v))  (g : gw xs (WP xs d) y Q nx L (.long (Int64.ofNat a) :: st) h mc ms) : gw xs (WP xs d) y Q pc L st h mc ms := gs hr (by
  exact g)
theorem g_null {xs : List Int32} {d y : Nat} {Q : QT} {pc : Nat} {L : LoS} {st : List Value} {h : AH} {mc ms : Nat} {nx kd a b : Nat} {v : Int32}  (hr : smI y pc = some (.aconst_null, nx, kd, a, b, v))  (g : gw xs (WP xs d) y Q nx L (.null :: st) h mc ms) : gw xs (WP xs d) y Q pc L st h mc ms := gs hr (by
  exact g)
theorem g_iload {xs : List Int32} {d y : Nat} {Q : QT} {pc : Nat} {L : LoS} {st : List Value} {h : AH} {mc ms : Nat} {nx kd a b : Nat} {v : Int32} {n : Nat} {x : Int32} (hr : smI y pc = some (.iload n, nx, kd, a, b, v)) (hl : L.getD n none = some (.int x)) (g : gw xs (WP xs d) y Q nx L (.int x :: st) h mc ms) : gw xs (WP xs d) y Q pc L st h mc ms := gs hr (by
  dsimp only [stp, gI]
  rw [hl]
  exact g)
theorem g_iload_n {xs : List Int32} {d y : Nat} {Q : QT} {pc : Nat} {L : LoS} {st : List Value} {h : AH} {mc ms : Nat} {nx kd a b : Nat} {v : Int32} {n : Fin 4} {x : Int32} (hr : smI y pc = some (.iload_n n, nx, kd, a, b, v)) (hl : L.getD n.val none = some (.int x)) (g : gw xs (WP xs d) y Q nx L (.int x :: st) h mc ms) : gw xs (WP xs d) y Q pc L st h mc ms := gs hr (by
  dsimp only [stp, gI]
  rw [hl]
  exact g)
theorem g_aload {xs : List Int32} {d y : Nat} {Q : QT} {pc : Nat} {L : LoS} {st : List Value} {h : AH} {mc ms : Nat} {nx kd a b : Nat} {v : Int32} {n : Nat} {x : Nat} (hr : smI y pc = some (.aload n, nx, kd, a, b, v)) (hl : L.getD n none = some (.ref x)) (g : gw xs (WP xs d) y Q nx L (.ref x :: st) h mc ms) : gw xs (WP xs d) y Q pc L st h mc ms := gs hr (by
  dsimp only [stp, gA]
  rw [hl]
  exact g)
theorem g_aloadN {xs : List Int32} {d y : Nat} {Q : QT} {pc : Nat} {L : LoS} {st : List Value} {h : AH} {mc ms : Nat} {nx kd a b : Nat} {v : Int32} {n : Nat} (hr : smI y pc = some (.aload n, nx, kd, a, b, v)) (hl : L.getD n none = some .null) (g : gw xs (WP xs d) y Q nx L (.null :: st) h mc ms) : gw xs (WP xs d) y Q pc L st h mc ms := gs hr (by
  dsimp only [stp, gA]
  rw [hl]
  exact g)
theorem g_aload_n {xs : List Int32} {d y : Nat} {Q : QT} {pc : Nat} {L : LoS} {st : List Value} {h : AH} {mc ms : Nat} {nx kd a b : Nat} {v : Int32} {n : Fin 4} {x : Nat} (hr : smI y pc = some (.aload_n n, nx, kd, a, b, v)) (hl : L.getD n.val none = some (.ref x)) (g : gw xs (WP xs d) y Q nx L (.ref x :: st) h mc ms) : gw xs (WP xs d) y Q pc L st h mc ms := gs hr (by
  dsimp only [stp, gA]
  rw [hl]
  exact g)
theorem g_aload_nN {xs : List Int32} {d y : Nat} {Q : QT} {pc : Nat} {L : LoS} {st : List Value} {h : AH} {mc ms : Nat} {nx kd a b : Nat} {v : Int32} {n : Fin 4} (hr : smI y pc = some (.aload_n n, nx, kd, a, b, v)) (hl : L.getD n.val none = some .null) (g : gw xs (WP xs d) y Q nx L (.null :: st) h mc ms) : gw xs (WP xs d) y Q pc L st h mc ms := gs hr (by
  dsimp only [stp, gA]
  rw [hl]
  exact g)
theorem g_lload_n {xs : List Int32} {d y : Nat} {Q : QT} {pc : Nat} {L : LoS} {st : List Value} {h : AH} {mc ms : Nat} {nx kd a b : Nat} {v : Int32} {n : Fin 4} {x : Int64} (hr : smI y pc = some (.lload_n n, nx, kd, a, b, v)) (hl : L.getD n.val none = some (.long x)) (g : gw xs (WP xs d) y Q nx L (.long x :: st) h mc ms) : gw xs (WP xs d) y Q pc L st h mc ms := gs hr (by
  dsimp only [stp, gL]
  rw [hl]
  exact g)
theorem g_istore {xs : List Int32} {d y : Nat} {Q : QT} {pc : Nat} {L : LoS} {st : List Value} {h : AH} {mc ms : Nat} {nx kd a b : Nat} {v : Int32} {n : Nat} {x : Int32} {L2 : LoS} (hr : smI y pc = some (.istore n, nx, kd, a, b, v)) (hk : okS L n = true) (hl : L.set n (some (.int x)) = L2) (g : gw xs (WP xs d) y Q nx L2 st h mc ms) : gw xs (WP xs d) y Q pc L (.int x :: st) h mc ms := gs hr (by
  dsimp only [stp, pI, pR, sL]
  rw [if_pos hk, hl]
  exact g)
theorem g_istore_n {xs : List Int32} {d y : Nat} {Q : QT} {pc : Nat} {L : LoS} {st : List Value} {h : AH} {mc ms : Nat} {nx kd a b : Nat} {v : Int32} {n : Fin 4} {x : Int32} {L2 : LoS} (hr : smI y pc = some (.istore_n n, nx, kd, a, b, v)) (hk : okS L n.val = true) (hl : L.set n.val (some (.int x)) = L2) (g : gw xs (WP xs d) y Q nx L2 st h mc ms) : gw xs (WP xs d) y Q pc L (.int x :: st) h mc ms := gs hr (by
  dsimp only [stp, pI, pR, sL]
  rw [if_pos hk, hl]
  exact g)
theorem g_astore {xs : List Int32} {d y : Nat} {Q : QT} {pc : Nat} {L : LoS} {st : List Value} {h : AH} {mc ms : Nat} {nx kd a b : Nat} {v : Int32} {n : Nat} {x : Nat} {L2 : LoS} (hr : smI y pc = some (.astore n, nx, kd, a, b, v)) (hk : okS L n = true) (hl : L.set n (some (.ref x)) = L2) (g : gw xs (WP xs d) y Q nx L2 st h mc ms) : gw xs (WP xs d) y Q pc L (.ref x :: st) h mc ms := gs hr (by
  dsimp only [stp, pI, pR, sL]
  rw [if_pos hk, hl]
  exact g)
theorem g_astore_n {xs : List Int32} {d y : Nat} {Q : QT} {pc : Nat} {L : LoS} {st : List Value} {h : AH} {mc ms : Nat} {nx kd a b : Nat} {v : Int32} {n : Fin 4} {x : Nat} {L2 : LoS} (hr : smI y pc = some (.astore_n n, nx, kd, a, b, v)) (hk : okS L n.val = true) (hl : L.set n.val (some (.ref x)) = L2) (g : gw xs (WP xs d) y Q nx L2 st h mc ms) : gw xs (WP xs d) y Q pc L (.ref x :: st) h mc ms := gs hr (by
  dsimp only [stp, pI, pR, sL]
  rw [if_pos hk, hl]
  exact g)
theorem g_iinc {xs : List Int32} {d y : Nat} {Q : QT} {pc : Nat} {L : LoS} {st : List Value} {h : AH} {mc ms : Nat} {nx kd a b : Nat} {v : Int32} {n : Nat} {w : Int} {x x2 : Int32} {L2 : LoS} (hr : smI y pc = some (.iinc n w, nx, kd, a, b, v)) (hl : L.getD n none = some (.int x)) (hx : x + v = x2) (hk : okS L n = true) (hl2 : L.set n (some (.int x2)) = L2) (g : gw xs (WP xs d) y Q nx L2 st h mc ms) : gw xs (WP xs d) y Q pc L st h mc ms := gs hr (by
  dsimp only [stp, gI, sL]
  rw [hl]
  dsimp only
  rw [if_pos hk, hx, hl2]
  exact g)
theorem g_iadd {xs : List Int32} {d y : Nat} {Q : QT} {pc : Nat} {L : LoS} {st : List Value} {h : AH} {mc ms : Nat} {nx kd a b : Nat} {v : Int32} {x z u : Int32} (hr : smI y pc = some (.iadd, nx, kd, a, b, v)) (hu : x + z = u) (g : gw xs (WP xs d) y Q nx L (.int u :: st) h mc ms) : gw xs (WP xs d) y Q pc L (.int z :: .int x :: st) h mc ms := gs hr (by
  dsimp only [stp, pI]
  rw [hu]
  exact g)
theorem g_isub {xs : List Int32} {d y : Nat} {Q : QT} {pc : Nat} {L : LoS} {st : List Value} {h : AH} {mc ms : Nat} {nx kd a b : Nat} {v : Int32} {x z u : Int32} (hr : smI y pc = some (.isub, nx, kd, a, b, v)) (hu : x - z = u) (g : gw xs (WP xs d) y Q nx L (.int u :: st) h mc ms) : gw xs (WP xs d) y Q pc L (.int z :: .int x :: st) h mc ms := gs hr (by
  dsimp only [stp, pI]
  rw [hu]
  exact g)
theorem g_imul {xs : List Int32} {d y : Nat} {Q : QT} {pc : Nat} {L : LoS} {st : List Value} {h : AH} {mc ms : Nat} {nx kd a b : Nat} {v : Int32} {x z u : Int32} (hr : smI y pc = some (.imul, nx, kd, a, b, v)) (hu : x * z = u) (g : gw xs (WP xs d) y Q nx L (.int u :: st) h mc ms) : gw xs (WP xs d) y Q pc L (.int z :: .int x :: st) h mc ms := gs hr (by
  dsimp only [stp, pI]
  rw [hu]
  exact g)
theorem g_iand {xs : List Int32} {d y : Nat} {Q : QT} {pc : Nat} {L : LoS} {st : List Value} {h : AH} {mc ms : Nat} {nx kd a b : Nat} {v : Int32} {x z u : Int32} (hr : smI y pc = some (.iand, nx, kd, a, b, v)) (hu : x &&& z = u) (g : gw xs (WP xs d) y Q nx L (.int u :: st) h mc ms) : gw xs (WP xs d) y Q pc L (.int z :: .int x :: st) h mc ms := gs hr (by
  dsimp only [stp, pI]
  rw [hu]
  exact g)
theorem g_ior {xs : List Int32} {d y : Nat} {Q : QT} {pc : Nat} {L : LoS} {st : List Value} {h : AH} {mc ms : Nat} {nx kd a b : Nat} {v : Int32} {x z u : Int32} (hr : smI y pc = some (.ior, nx, kd, a, b, v)) (hu : x ||| z = u) (g : gw xs (WP xs d) y Q nx L (.int u :: st) h mc ms) : gw xs (WP xs d) y Q pc L (.int z :: .int x :: st) h mc ms := gs hr (by
  dsimp only [stp, pI]
  rw [hu]
  exact g)
theorem g_ixor {xs : List Int32} {d y : Nat} {Q : QT} {pc : Nat} {L : LoS} {st : List Value} {h : AH} {mc ms : Nat} {nx kd a b : Nat} {v : Int32} {x z u : Int32} (hr : smI y pc = some (.ixor, nx, kd, a, b, v)) (hu : x ^^^ z = u) (g : gw xs (WP xs d) y Q nx L (.int u :: st) h mc ms) : gw xs (WP xs d) y Q pc L (.int z :: .int x :: st) h mc ms := gs hr (by
  dsimp only [stp, pI]
  rw [hu]
  exact g)
theorem g_ishl {xs : List Int32} {d y : Nat} {Q : QT} {pc : Nat} {L : LoS} {st : List Value} {h : AH} {mc ms : Nat} {nx kd a b : Nat} {v : Int32} {x z u : Int32} (hr : smI y pc = some (.ishl, nx, kd, a, b, v)) (hu : x <<< (z &&& 31) = u) (g : gw xs (WP xs d) y Q nx L (.int u :: st) h mc ms) : gw xs (WP xs d) y Q pc L (.int z :: .int x :: st) h mc ms := gs hr (by
  dsimp only [stp, pI]
  rw [hu]
  exact g)
theorem g_ishr {xs : List Int32} {d y : Nat} {Q : QT} {pc : Nat} {L : LoS} {st : List Value} {h : AH} {mc ms : Nat} {nx kd a b : Nat} {v : Int32} {x z u : Int32} (hr : smI y pc = some (.ishr, nx, kd, a, b, v)) (hu : x >>> (z &&& 31) = u) (g : gw xs (WP xs d) y Q nx L (.int u :: st) h mc ms) : gw xs (WP xs d) y Q pc L (.int z :: .int x :: st) h mc ms := gs hr (by
  dsimp only [stp, pI]
  rw [hu]
  exact g)
theorem g_iushr {xs : List Int32} {d y : Nat} {Q : QT} {pc : Nat} {L : LoS} {st : List Value} {h : AH} {mc ms : Nat} {nx kd a b : Nat} {v : Int32} {x z u : Int32} (hr : smI y pc = some (.iushr, nx, kd, a, b, v)) (hu : (x.toUInt32 >>> (z.toUInt32 &&& Int32.toUInt32 31)).toInt32 = u) (g : gw xs (WP xs d) y Q nx L (.int u :: st) h mc ms) : gw xs (WP xs d) y Q pc L (.int z :: .int x :: st) h mc ms := gs hr (by
  dsimp only [stp, pI]
  rw [hu]
  exact g)
theorem g_idiv {xs : List Int32} {d y : Nat} {Q : QT} {pc : Nat} {L : LoS} {st : List Value} {h : AH} {mc ms : Nat} {nx kd a b : Nat} {v : Int32} {x z u : Int32} (hr : smI y pc = some (.idiv, nx, kd, a, b, v)) (h0 : ¬ z = 0) (hu : x / z = u) (g : gw xs (WP xs d) y Q nx L (.int u :: st) h mc ms) : gw xs (WP xs d) y Q pc L (.int z :: .int x :: st) h mc ms := gs hr (by
  dsimp only [stp, pI]
  rw [hu]
  exact ⟨h0, g⟩)
theorem g_irem {xs : List Int32} {d y : Nat} {Q : QT} {pc : Nat} {L : LoS} {st : List Value} {h : AH} {mc ms : Nat} {nx kd a b : Nat} {v : Int32} {x z u : Int32} (hr : smI y pc = some (.irem, nx, kd, a, b, v)) (h0 : ¬ z = 0) (hu : x - x / z * z = u) (g : gw xs (WP xs d) y Q nx L (.int u :: st) h mc ms) : gw xs (WP xs d) y Q pc L (.int z :: .int x :: st) h mc ms := gs hr (by
  dsimp only [stp, pI]
  rw [hu]
  exact ⟨h0, g⟩)
theorem g_ineg {xs : List Int32} {d y : Nat} {Q : QT} {pc : Nat} {L : LoS} {st : List Value} {h : AH} {mc ms : Nat} {nx kd a b : Nat} {v : Int32} {x u : Int32} (hr : smI y pc = some (.ineg, nx, kd, a, b, v)) (hu : -x = u) (g : gw xs (WP xs d) y Q nx L (.int u :: st) h mc ms) : gw xs (WP xs d) y Q pc L (.int x :: st) h mc ms := gs hr (by
  dsimp only [stp, pI]
  rw [hu]
  exact g)
theorem g_i2l {xs : List Int32} {d y : Nat} {Q : QT} {pc : Nat} {L : LoS} {st : List Value} {h : AH} {mc ms : Nat} {nx kd a b : Nat} {v : Int32} {x : Int32} (hr : smI y pc = some (.i2l, nx, kd, a, b, v))  (g : gw xs (WP xs d) y Q nx L (.long x.toInt64 :: st) h mc ms) : gw xs (WP xs d) y Q pc L (.int x :: st) h mc ms := gs hr (by
  exact g)
theorem g_l2i {xs : List Int32} {d y : Nat} {Q : QT} {pc : Nat} {L : LoS} {st : List Value} {h : AH} {mc ms : Nat} {nx kd a b : Nat} {v : Int32} {x : Int64} (hr : smI y pc = some (.l2i, nx, kd, a, b, v))  (g : gw xs (WP xs d) y Q nx L (.int x.toInt32 :: st) h mc ms) : gw xs (WP xs d) y Q pc L (.long x :: st) h mc ms := gs hr (by
  exact g)
theorem g_i2b {xs : List Int32} {d y : Nat} {Q : QT} {pc : Nat} {L : LoS} {st : List Value} {h : AH} {mc ms : Nat} {nx kd a b : Nat} {v : Int32} {x u : Int32} (hr : smI y pc = some (.i2b, nx, kd, a, b, v)) (hu : x.toInt8.toInt32 = u) (g : gw xs (WP xs d) y Q nx L (.int u :: st) h mc ms) : gw xs (WP xs d) y Q pc L (.int x :: st) h mc ms := gs hr (by
  dsimp only [stp, pI]
  rw [hu]
  exact g)
theorem g_i2s {xs : List Int32} {d y : Nat} {Q : QT} {pc : Nat} {L : LoS} {st : List Value} {h : AH} {mc ms : Nat} {nx kd a b : Nat} {v : Int32} {x u : Int32} (hr : smI y pc = some (.i2s, nx, kd, a, b, v)) (hu : x.toInt16.toInt32 = u) (g : gw xs (WP xs d) y Q nx L (.int u :: st) h mc ms) : gw xs (WP xs d) y Q pc L (.int x :: st) h mc ms := gs hr (by
  dsimp only [stp, pI]
  rw [hu]
  exact g)
theorem g_i2c {xs : List Int32} {d y : Nat} {Q : QT} {pc : Nat} {L : LoS} {st : List Value} {h : AH} {mc ms : Nat} {nx kd a b : Nat} {v : Int32} {x u : Int32} (hr : smI y pc = some (.i2c, nx, kd, a, b, v)) (hu : (x.toUInt32 % 65536).toInt32 = u) (g : gw xs (WP xs d) y Q nx L (.int u :: st) h mc ms) : gw xs (WP xs d) y Q pc L (.int x :: st) h mc ms := gs hr (by
  dsimp only [stp, pI]
  rw [hu]
  exact g)
theorem g_land {xs : List Int32} {d y : Nat} {Q : QT} {pc : Nat} {L : LoS} {st : List Value} {h : AH} {mc ms : Nat} {nx kd a b : Nat} {v : Int32} {x z : Int64} (hr : smI y pc = some (.land, nx, kd, a, b, v))  (g : gw xs (WP xs d) y Q nx L (.long (x &&& z) :: st) h mc ms) : gw xs (WP xs d) y Q pc L (.long z :: .long x :: st) h mc ms := gs hr (by
  exact g)
theorem g_lor {xs : List Int32} {d y : Nat} {Q : QT} {pc : Nat} {L : LoS} {st : List Value} {h : AH} {mc ms : Nat} {nx kd a b : Nat} {v : Int32} {x z : Int64} (hr : smI y pc = some (.lor, nx, kd, a, b, v))  (g : gw xs (WP xs d) y Q nx L (.long (x ||| z) :: st) h mc ms) : gw xs (WP xs d) y Q pc L (.long z :: .long x :: st) h mc ms := gs hr (by
  exact g)
theorem g_lshl {xs : List Int32} {d y : Nat} {Q : QT} {pc : Nat} {L : LoS} {st : List Value} {h : AH} {mc ms : Nat} {nx kd a b : Nat} {v : Int32} {x : Int64} {z : Int32} (hr : smI y pc = some (.lshl, nx, kd, a, b, v))  (g : gw xs (WP xs d) y Q nx L (.long (x <<< (z.toInt64 &&& 63)) :: st) h mc ms) : gw xs (WP xs d) y Q pc L (.int z :: .long x :: st) h mc ms := gs hr (by
  exact g)
theorem g_lshr {xs : List Int32} {d y : Nat} {Q : QT} {pc : Nat} {L : LoS} {st : List Value} {h : AH} {mc ms : Nat} {nx kd a b : Nat} {v : Int32} {x : Int64} {z : Int32} (hr : smI y pc = some (.lshr, nx, kd, a, b, v))  (g : gw xs (WP xs d) y Q nx L (.long (x >>> (z.toInt64 &&& 63)) :: st) h mc ms) : gw xs (WP xs d) y Q pc L (.int z :: .long x :: st) h mc ms := gs hr (by
  exact g)
theorem g_lushr {xs : List Int32} {d y : Nat} {Q : QT} {pc : Nat} {L : LoS} {st : List Value} {h : AH} {mc ms : Nat} {nx kd a b : Nat} {v : Int32} {x : Int64} {z : Int32} (hr : smI y pc = some (.lushr, nx, kd, a, b, v))  (g : gw xs (WP xs d) y Q nx L (.long ((x.toUInt64 >>> (z.toInt64.toUInt64 &&& Int64.toUInt64 63)).toInt64) :: st) h mc ms) : gw xs (WP xs d) y Q pc L (.int z :: .long x :: st) h mc ms := gs hr (by
  exact g)
theorem g_dup {xs : List Int32} {d y : Nat} {Q : QT} {pc : Nat} {L : LoS} {st : List Value} {h : AH} {mc ms : Nat} {nx kd a b : Nat} {v : Int32} {u : Value} (hr : smI y pc = some (.dup, nx, kd, a, b, v)) (hu : c1V u = true) (g : gw xs (WP xs d) y Q nx L (u :: u :: st) h mc ms) : gw xs (WP xs d) y Q pc L (u :: st) h mc ms := gs hr (by
  dsimp only [stp, pV]
  rw [if_pos hu]
  exact g)
theorem g_pop {xs : List Int32} {d y : Nat} {Q : QT} {pc : Nat} {L : LoS} {st : List Value} {h : AH} {mc ms : Nat} {nx kd a b : Nat} {v : Int32} {u : Value} (hr : smI y pc = some (.pop, nx, kd, a, b, v)) (hu : c1V u = true) (g : gw xs (WP xs d) y Q nx L st h mc ms) : gw xs (WP xs d) y Q pc L (u :: st) h mc ms := gs hr (by
  dsimp only [stp, pV]
  rw [if_pos hu]
  exact g)
theorem g_dup2 {xs : List Int32} {d y : Nat} {Q : QT} {pc : Nat} {L : LoS} {st : List Value} {h : AH} {mc ms : Nat} {nx kd a b : Nat} {v : Int32} {u w : Value} (hr : smI y pc = some (.dup2, nx, kd, a, b, v)) (hu : c1V u = true) (hw : c1V w = true) (g : gw xs (WP xs d) y Q nx L (u :: w :: u :: w :: st) h mc ms) : gw xs (WP xs d) y Q pc L (u :: w :: st) h mc ms := gs hr (by
  dsimp only [stp, pV]
  rw [if_pos hu, if_pos hw]
  exact g)
theorem g_goto {xs : List Int32} {d y : Nat} {Q : QT} {pc : Nat} {L : LoS} {st : List Value} {h : AH} {mc ms : Nat} {nx kd a b : Nat} {v : Int32} {w : Int} (hr : smI y pc = some (.goto w, nx, kd, a, b, v))  (g : gw xs (WP xs d) y Q a L st h mc ms) : gw xs (WP xs d) y Q pc L st h mc ms := gs hr (by
  exact g)
theorem g_ic_eqT {xs : List Int32} {d y : Nat} {Q : QT} {pc : Nat} {L : LoS} {st : List Value} {h : AH} {mc ms : Nat} {nx kd a b : Nat} {v : Int32} {x z : Int32} {w : Int} (hr : smI y pc = some (.if_icmp .eq w, nx, kd, a, b, v)) (hc : (x = z)) (g : gw xs (WP xs d) y Q a L st h mc ms) : gw xs (WP xs d) y Q pc L (.int z :: .int x :: st) h mc ms := gs hr (by
  dsimp only [stp, pI]
  rw [if_pos hc]
  exact g)
theorem g_ic_eqF {xs : List Int32} {d y : Nat} {Q : QT} {pc : Nat} {L : LoS} {st : List Value} {h : AH} {mc ms : Nat} {nx kd a b : Nat} {v : Int32} {x z : Int32} {w : Int} (hr : smI y pc = some (.if_icmp .eq w, nx, kd, a, b, v)) (hc : ¬ (x = z)) (g : gw xs (WP xs d) y Q nx L st h mc ms) : gw xs (WP xs d) y Q pc L (.int z :: .int x :: st) h mc ms := gs hr (by
  dsimp only [stp, pI]
  rw [if_neg hc]
  exact g)
theorem g_ic_eq {xs : List Int32} {d y : Nat} {Q : QT} {pc : Nat} {L : LoS} {st : List Value} {h : AH} {mc ms : Nat} {nx kd a b : Nat} {v : Int32} {x z : Int32} {w : Int} (hr : smI y pc = some (.if_icmp .eq w, nx, kd, a, b, v)) (gT : x = z → gw xs (WP xs d) y Q a L st h mc ms) (gF : ¬ (x = z) → gw xs (WP xs d) y Q nx L st h mc ms) : gw xs (WP xs d) y Q pc L (.int z :: .int x :: st) h mc ms := by
  by_cases hc : x = z
  · exact g_ic_eqT hr hc (gT hc)
  · exact g_ic_eqF hr hc (gF hc)
theorem g_if_eqT {xs : List Int32} {d y : Nat} {Q : QT} {pc : Nat} {L : LoS} {st : List Value} {h : AH} {mc ms : Nat} {nx kd a b : Nat} {v : Int32} {x : Int32} {w : Int} (hr : smI y pc = some (.ifCond .eq w, nx, kd, a, b, v)) (hc : (x = 0)) (g : gw xs (WP xs d) y Q a L st h mc ms) : gw xs (WP xs d) y Q pc L (.int x :: st) h mc ms := gs hr (by
  dsimp only [stp, pI]
  rw [if_pos hc]
  exact g)
theorem g_if_eqF {xs : List Int32} {d y : Nat} {Q : QT} {pc : Nat} {L : LoS} {st : List Value} {h : AH} {mc ms : Nat} {nx kd a b : Nat} {v : Int32} {x : Int32} {w : Int} (hr : smI y pc = some (.ifCond .eq w, nx, kd, a, b, v)) (hc : ¬ (x = 0)) (g : gw xs (WP xs d) y Q nx L st h mc ms) : gw xs (WP xs d) y Q pc L (.int x :: st) h mc ms := gs hr (by
  dsimp only [stp, pI]
  rw [if_neg hc]
  exact g)
theorem g_if_eq {xs : List Int32} {d y : Nat} {Q : QT} {pc : Nat} {L : LoS} {st : List Value} {h : AH} {mc ms : Nat} {nx kd a b : Nat} {v : Int32} {x : Int32} {w : Int} (hr : smI y pc = some (.ifCond .eq w, nx, kd, a, b, v)) (gT : x = 0 → gw xs (WP xs d) y Q a L st h mc ms) (gF : ¬ (x = 0) → gw xs (WP xs d) y Q nx L st h mc ms) : gw xs (WP xs d) y Q pc L (.int x :: st) h mc ms := by
  by_cases hc : x = 0
  · exact g_if_eqT hr hc (gT hc)
  · exact g_if_eqF hr hc (gF hc)
theorem g_ic_neT {xs : List Int32} {d y : Nat} {Q : QT} {pc : Nat} {L : LoS} {st : List Value} {h : AH} {mc ms : Nat} {nx kd a b : Nat} {v : Int32} {x z : Int32} {w : Int} (hr : smI y pc = some (.if_icmp .ne w, nx, kd, a, b, v)) (hc : (x = z)) (g : gw xs (WP xs d) y Q nx L st h mc ms) : gw xs (WP xs d) y Q pc L (.int z :: .int x :: st) h mc ms := gs hr (by
  dsimp only [stp, pI]
  rw [if_pos hc]
  exact g)
theorem g_ic_neF {xs : List Int32} {d y : Nat} {Q : QT} {pc : Nat} {L : LoS} {st : List Value} {h : AH} {mc ms : Nat} {nx kd a b : Nat} {v : Int32} {x z : Int32} {w : Int} (hr : smI y pc = some (.if_icmp .ne w, nx, kd, a, b, v)) (hc : ¬ (x = z)) (g : gw xs (WP xs d) y Q a L st h mc ms) : gw xs (WP xs d) y Q pc L (.int z :: .int x :: st) h mc ms := gs hr (by
  dsimp only [stp, pI]
  rw [if_neg hc]
  exact g)
theorem g_ic_ne {xs : List Int32} {d y : Nat} {Q : QT} {pc : Nat} {L : LoS} {st : List Value} {h : AH} {mc ms : Nat} {nx kd a b : Nat} {v : Int32} {x z : Int32} {w : Int} (hr : smI y pc = some (.if_icmp .ne w, nx, kd, a, b, v)) (gT : x = z → gw xs (WP xs d) y Q nx L st h mc ms) (gF : ¬ (x = z) → gw xs (WP xs d) y Q a L st h mc ms) : gw xs (WP xs d) y Q pc L (.int z :: .int x :: st) h mc ms := by
  by_cases hc : x = z
  · exact g_ic_neT hr hc (gT hc)
  · exact g_ic_neF hr hc (gF hc)
theorem g_if_neT {xs : List Int32} {d y : Nat} {Q : QT} {pc : Nat} {L : LoS} {st : List Value} {h : AH} {mc ms : Nat} {nx kd a b : Nat} {v : Int32} {x : Int32} {w : Int} (hr : smI y pc = some (.ifCond .ne w, nx, kd, a, b, v)) (hc : (x = 0)) (g : gw xs (WP xs d) y Q nx L st h mc ms) : gw xs (WP xs d) y Q pc L (.int x :: st) h mc ms := gs hr (by
  dsimp only [stp, pI]
  rw [if_pos hc]
  exact g)
theorem g_if_neF {xs : List Int32} {d y : Nat} {Q : QT} {pc : Nat} {L : LoS} {st : List Value} {h : AH} {mc ms : Nat} {nx kd a b : Nat} {v : Int32} {x : Int32} {w : Int} (hr : smI y pc = some (.ifCond .ne w, nx, kd, a, b, v)) (hc : ¬ (x = 0)) (g : gw xs (WP xs d) y Q a L st h mc ms) : gw xs (WP xs d) y Q pc L (.int x :: st) h mc ms := gs hr (by
  dsimp only [stp, pI]
  rw [if_neg hc]
  exact g)
theorem g_if_ne {xs : List Int32} {d y : Nat} {Q : QT} {pc : Nat} {L : LoS} {st : List Value} {h : AH} {mc ms : Nat} {nx kd a b : Nat} {v : Int32} {x : Int32} {w : Int} (hr : smI y pc = some (.ifCond .ne w, nx, kd, a, b, v)) (gT : x = 0 → gw xs (WP xs d) y Q nx L st h mc ms) (gF : ¬ (x = 0) → gw xs (WP xs d) y Q a L st h mc ms) : gw xs (WP xs d) y Q pc L (.int x :: st) h mc ms := by
  by_cases hc : x = 0
  · exact g_if_neT hr hc (gT hc)
  · exact g_if_neF hr hc (gF hc)
theorem g_ic_ltT {xs : List Int32} {d y : Nat} {Q : QT} {pc : Nat} {L : LoS} {st : List Value} {h : AH} {mc ms : Nat} {nx kd a b : Nat} {v : Int32} {x z : Int32} {w : Int} (hr : smI y pc = some (.if_icmp .lt w, nx, kd, a, b, v)) (hc : (x < z)) (g : gw xs (WP xs d) y Q a L st h mc ms) : gw xs (WP xs d) y Q pc L (.int z :: .int x :: st) h mc ms := gs hr (by
  dsimp only [stp, pI]
  rw [if_pos hc]
  exact g)
theorem g_ic_ltF {xs : List Int32} {d y : Nat} {Q : QT} {pc : Nat} {L : LoS} {st : List Value} {h : AH} {mc ms : Nat} {nx kd a b : Nat} {v : Int32} {x z : Int32} {w : Int} (hr : smI y pc = some (.if_icmp .lt w, nx, kd, a, b, v)) (hc : ¬ (x < z)) (g : gw xs (WP xs d) y Q nx L st h mc ms) : gw xs (WP xs d) y Q pc L (.int z :: .int x :: st) h mc ms := gs hr (by
  dsimp only [stp, pI]
  rw [if_neg hc]
  exact g)
theorem g_ic_lt {xs : List Int32} {d y : Nat} {Q : QT} {pc : Nat} {L : LoS} {st : List Value} {h : AH} {mc ms : Nat} {nx kd a b : Nat} {v : Int32} {x z : Int32} {w : Int} (hr : smI y pc = some (.if_icmp .lt w, nx, kd, a, b, v)) (gT : x < z → gw xs (WP xs d) y Q a L st h mc ms) (gF : ¬ (x < z) → gw xs (WP xs d) y Q nx L st h mc ms) : gw xs (WP xs d) y Q pc L (.int z :: .int x :: st) h mc ms := by
  by_cases hc : x < z
  · exact g_ic_ltT hr hc (gT hc)
  · exact g_ic_ltF hr hc (gF hc)
theorem g_if_ltT {xs : List Int32} {d y : Nat} {Q : QT} {pc : Nat} {L : LoS} {st : List Value} {h : AH} {mc ms : Nat} {nx kd a b : Nat} {v : Int32} {x : Int32} {w : Int} (hr : smI y pc = some (.ifCond .lt w, nx, kd, a, b, v)) (hc : (x < 0)) (g : gw xs (WP xs d) y Q a L st h mc ms) : gw xs (WP xs d) y Q pc L (.int x :: st) h mc ms := gs hr (by
  dsimp only [stp, pI]
  rw [if_pos hc]
  exact g)
theorem g_if_ltF {xs : List Int32} {d y : Nat} {Q : QT} {pc : Nat} {L : LoS} {st : List Value} {h : AH} {mc ms : Nat} {nx kd a b : Nat} {v : Int32} {x : Int32} {w : Int} (hr : smI y pc = some (.ifCond .lt w, nx, kd, a, b, v)) (hc : ¬ (x < 0)) (g : gw xs (WP xs d) y Q nx L st h mc ms) : gw xs (WP xs d) y Q pc L (.int x :: st) h mc ms := gs hr (by
  dsimp only [stp, pI]
  rw [if_neg hc]
  exact g)
theorem g_if_lt {xs : List Int32} {d y : Nat} {Q : QT} {pc : Nat} {L : LoS} {st : List Value} {h : AH} {mc ms : Nat} {nx kd a b : Nat} {v : Int32} {x : Int32} {w : Int} (hr : smI y pc = some (.ifCond .lt w, nx, kd, a, b, v)) (gT : x < 0 → gw xs (WP xs d) y Q a L st h mc ms) (gF : ¬ (x < 0) → gw xs (WP xs d) y Q nx L st h mc ms) : gw xs (WP xs d) y Q pc L (.int x :: st) h mc ms := by
  by_cases hc : x < 0
  · exact g_if_ltT hr hc (gT hc)
  · exact g_if_ltF hr hc (gF hc)
theorem g_ic_geT {xs : List Int32} {d y : Nat} {Q : QT} {pc : Nat} {L : LoS} {st : List Value} {h : AH} {mc ms : Nat} {nx kd a b : Nat} {v : Int32} {x z : Int32} {w : Int} (hr : smI y pc = some (.if_icmp .ge w, nx, kd, a, b, v)) (hc : (z ≤ x)) (g : gw xs (WP xs d) y Q a L st h mc ms) : gw xs (WP xs d) y Q pc L (.int z :: .int x :: st) h mc ms := gs hr (by
  dsimp only [stp, pI]
  rw [if_pos hc]
  exact g)
theorem g_ic_geF {xs : List Int32} {d y : Nat} {Q : QT} {pc : Nat} {L : LoS} {st : List Value} {h : AH} {mc ms : Nat} {nx kd a b : Nat} {v : Int32} {x z : Int32} {w : Int} (hr : smI y pc = some (.if_icmp .ge w, nx, kd, a, b, v)) (hc : ¬ (z ≤ x)) (g : gw xs (WP xs d) y Q nx L st h mc ms) : gw xs (WP xs d) y Q pc L (.int z :: .int x :: st) h mc ms := gs hr (by
  dsimp only [stp, pI]
  rw [if_neg hc]
  exact g)
theorem g_ic_ge {xs : List Int32} {d y : Nat} {Q : QT} {pc : Nat} {L : LoS} {st : List Value} {h : AH} {mc ms : Nat} {nx kd a b : Nat} {v : Int32} {x z : Int32} {w : Int} (hr : smI y pc = some (.if_icmp .ge w, nx, kd, a, b, v)) (gT : z ≤ x → gw xs (WP xs d) y Q a L st h mc ms) (gF : ¬ (z ≤ x) → gw xs (WP xs d) y Q nx L st h mc ms) : gw xs (WP xs d) y Q pc L (.int z :: .int x :: st) h mc ms := by
  by_cases hc : z ≤ x
  · exact g_ic_geT hr hc (gT hc)
  · exact g_ic_geF hr hc (gF hc)
theorem g_if_geT {xs : List Int32} {d y : Nat} {Q : QT} {pc : Nat} {L : LoS} {st : List Value} {h : AH} {mc ms : Nat} {nx kd a b : Nat} {v : Int32} {x : Int32} {w : Int} (hr : smI y pc = some (.ifCond .ge w, nx, kd, a, b, v)) (hc : (0 ≤ x)) (g : gw xs (WP xs d) y Q a L st h mc ms) : gw xs (WP xs d) y Q pc L (.int x :: st) h mc ms := gs hr (by
  dsimp only [stp, pI]
  rw [if_pos hc]
  exact g)
theorem g_if_geF {xs : List Int32} {d y : Nat} {Q : QT} {pc : Nat} {L : LoS} {st : List Value} {h : AH} {mc ms : Nat} {nx kd a b : Nat} {v : Int32} {x : Int32} {w : Int} (hr : smI y pc = some (.ifCond .ge w, nx, kd, a, b, v)) (hc : ¬ (0 ≤ x)) (g : gw xs (WP xs d) y Q nx L st h mc ms) : gw xs (WP xs d) y Q pc L (.int x :: st) h mc ms := gs hr (by
  dsimp only [stp, pI]
  rw [if_neg hc]
  exact g)
theorem g_if_ge {xs : List Int32} {d y : Nat} {Q : QT} {pc : Nat} {L : LoS} {st : List Value} {h : AH} {mc ms : Nat} {nx kd a b : Nat} {v : Int32} {x : Int32} {w : Int} (hr : smI y pc = some (.ifCond .ge w, nx, kd, a, b, v)) (gT : 0 ≤ x → gw xs (WP xs d) y Q a L st h mc ms) (gF : ¬ (0 ≤ x) → gw xs (WP xs d) y Q nx L st h mc ms) : gw xs (WP xs d) y Q pc L (.int x :: st) h mc ms := by
  by_cases hc : 0 ≤ x
  · exact g_if_geT hr hc (gT hc)
  · exact g_if_geF hr hc (gF hc)
theorem g_ic_gtT {xs : List Int32} {d y : Nat} {Q : QT} {pc : Nat} {L : LoS} {st : List Value} {h : AH} {mc ms : Nat} {nx kd a b : Nat} {v : Int32} {x z : Int32} {w : Int} (hr : smI y pc = some (.if_icmp .gt w, nx, kd, a, b, v)) (hc : (z < x)) (g : gw xs (WP xs d) y Q a L st h mc ms) : gw xs (WP xs d) y Q pc L (.int z :: .int x :: st) h mc ms := gs hr (by
  dsimp only [stp, pI]
  rw [if_pos hc]
  exact g)
theorem g_ic_gtF {xs : List Int32} {d y : Nat} {Q : QT} {pc : Nat} {L : LoS} {st : List Value} {h : AH} {mc ms : Nat} {nx kd a b : Nat} {v : Int32} {x z : Int32} {w : Int} (hr : smI y pc = some (.if_icmp .gt w, nx, kd, a, b, v)) (hc : ¬ (z < x)) (g : gw xs (WP xs d) y Q nx L st h mc ms) : gw xs (WP xs d) y Q pc L (.int z :: .int x :: st) h mc ms := gs hr (by
  dsimp only [stp, pI]
  rw [if_neg hc]
  exact g)
theorem g_ic_gt {xs : List Int32} {d y : Nat} {Q : QT} {pc : Nat} {L : LoS} {st : List Value} {h : AH} {mc ms : Nat} {nx kd a b : Nat} {v : Int32} {x z : Int32} {w : Int} (hr : smI y pc = some (.if_icmp .gt w, nx, kd, a, b, v)) (gT : z < x → gw xs (WP xs d) y Q a L st h mc ms) (gF : ¬ (z < x) → gw xs (WP xs d) y Q nx L st h mc ms) : gw xs (WP xs d) y Q pc L (.int z :: .int x :: st) h mc ms := by
  by_cases hc : z < x
  · exact g_ic_gtT hr hc (gT hc)
  · exact g_ic_gtF hr hc (gF hc)
theorem g_if_gtT {xs : List Int32} {d y : Nat} {Q : QT} {pc : Nat} {L : LoS} {st : List Value} {h : AH} {mc ms : Nat} {nx kd a b : Nat} {v : Int32} {x : Int32} {w : Int} (hr : smI y pc = some (.ifCond .gt w, nx, kd, a, b, v)) (hc : (0 < x)) (g : gw xs (WP xs d) y Q a L st h mc ms) : gw xs (WP xs d) y Q pc L (.int x :: st) h mc ms := gs hr (by
  dsimp only [stp, pI]
  rw [if_pos hc]
  exact g)
theorem g_if_gtF {xs : List Int32} {d y : Nat} {Q : QT} {pc : Nat} {L : LoS} {st : List Value} {h : AH} {mc ms : Nat} {nx kd a b : Nat} {v : Int32} {x : Int32} {w : Int} (hr : smI y pc = some (.ifCond .gt w, nx, kd, a, b, v)) (hc : ¬ (0 < x)) (g : gw xs (WP xs d) y Q nx L st h mc ms) : gw xs (WP xs d) y Q pc L (.int x :: st) h mc ms := gs hr (by
  dsimp only [stp, pI]
  rw [if_neg hc]
  exact g)
theorem g_if_gt {xs : List Int32} {d y : Nat} {Q : QT} {pc : Nat} {L : LoS} {st : List Value} {h : AH} {mc ms : Nat} {nx kd a b : Nat} {v : Int32} {x : Int32} {w : Int} (hr : smI y pc = some (.ifCond .gt w, nx, kd, a, b, v)) (gT : 0 < x → gw xs (WP xs d) y Q a L st h mc ms) (gF : ¬ (0 < x) → gw xs (WP xs d) y Q nx L st h mc ms) : gw xs (WP xs d) y Q pc L (.int x :: st) h mc ms := by
  by_cases hc : 0 < x
  · exact g_if_gtT hr hc (gT hc)
  · exact g_if_gtF hr hc (gF hc)
theorem g_ic_leT {xs : List Int32} {d y : Nat} {Q : QT} {pc : Nat} {L : LoS} {st : List Value} {h : AH} {mc ms : Nat} {nx kd a b : Nat} {v : Int32} {x z : Int32} {w : Int} (hr : smI y pc = some (.if_icmp .le w, nx, kd, a, b, v)) (hc : (x ≤ z)) (g : gw xs (WP xs d) y Q a L st h mc ms) : gw xs (WP xs d) y Q pc L (.int z :: .int x :: st) h mc ms := gs hr (by
  dsimp only [stp, pI]
  rw [if_pos hc]
  exact g)
theorem g_ic_leF {xs : List Int32} {d y : Nat} {Q : QT} {pc : Nat} {L : LoS} {st : List Value} {h : AH} {mc ms : Nat} {nx kd a b : Nat} {v : Int32} {x z : Int32} {w : Int} (hr : smI y pc = some (.if_icmp .le w, nx, kd, a, b, v)) (hc : ¬ (x ≤ z)) (g : gw xs (WP xs d) y Q nx L st h mc ms) : gw xs (WP xs d) y Q pc L (.int z :: .int x :: st) h mc ms := gs hr (by
  dsimp only [stp, pI]
  rw [if_neg hc]
  exact g)
theorem g_ic_le {xs : List Int32} {d y : Nat} {Q : QT} {pc : Nat} {L : LoS} {st : List Value} {h : AH} {mc ms : Nat} {nx kd a b : Nat} {v : Int32} {x z : Int32} {w : Int} (hr : smI y pc = some (.if_icmp .le w, nx, kd, a, b, v)) (gT : x ≤ z → gw xs (WP xs d) y Q a L st h mc ms) (gF : ¬ (x ≤ z) → gw xs (WP xs d) y Q nx L st h mc ms) : gw xs (WP xs d) y Q pc L (.int z :: .int x :: st) h mc ms := by
  by_cases hc : x ≤ z
  · exact g_ic_leT hr hc (gT hc)
  · exact g_ic_leF hr hc (gF hc)
theorem g_if_leT {xs : List Int32} {d y : Nat} {Q : QT} {pc : Nat} {L : LoS} {st : List Value} {h : AH} {mc ms : Nat} {nx kd a b : Nat} {v : Int32} {x : Int32} {w : Int} (hr : smI y pc = some (.ifCond .le w, nx, kd, a, b, v)) (hc : (x ≤ 0)) (g : gw xs (WP xs d) y Q a L st h mc ms) : gw xs (WP xs d) y Q pc L (.int x :: st) h mc ms := gs hr (by
  dsimp only [stp, pI]
  rw [if_pos hc]
  exact g)
theorem g_if_leF {xs : List Int32} {d y : Nat} {Q : QT} {pc : Nat} {L : LoS} {st : List Value} {h : AH} {mc ms : Nat} {nx kd a b : Nat} {v : Int32} {x : Int32} {w : Int} (hr : smI y pc = some (.ifCond .le w, nx, kd, a, b, v)) (hc : ¬ (x ≤ 0)) (g : gw xs (WP xs d) y Q nx L st h mc ms) : gw xs (WP xs d) y Q pc L (.int x :: st) h mc ms := gs hr (by
  dsimp only [stp, pI]
  rw [if_neg hc]
  exact g)
theorem g_if_le {xs : List Int32} {d y : Nat} {Q : QT} {pc : Nat} {L : LoS} {st : List Value} {h : AH} {mc ms : Nat} {nx kd a b : Nat} {v : Int32} {x : Int32} {w : Int} (hr : smI y pc = some (.ifCond .le w, nx, kd, a, b, v)) (gT : x ≤ 0 → gw xs (WP xs d) y Q a L st h mc ms) (gF : ¬ (x ≤ 0) → gw xs (WP xs d) y Q nx L st h mc ms) : gw xs (WP xs d) y Q pc L (.int x :: st) h mc ms := by
  by_cases hc : x ≤ 0
  · exact g_if_leT hr hc (gT hc)
  · exact g_if_leF hr hc (gF hc)
theorem g_ifnullN {xs : List Int32} {d y : Nat} {Q : QT} {pc : Nat} {L : LoS} {st : List Value} {h : AH} {mc ms : Nat} {nx kd a b : Nat} {v : Int32} {w : Int} (hr : smI y pc = some (.ifnull w, nx, kd, a, b, v))  (g : gw xs (WP xs d) y Q a L st h mc ms) : gw xs (WP xs d) y Q pc L (.null :: st) h mc ms := gs hr (by
  exact g)
theorem g_ifnullR {xs : List Int32} {d y : Nat} {Q : QT} {pc : Nat} {L : LoS} {st : List Value} {h : AH} {mc ms : Nat} {nx kd a b : Nat} {v : Int32} {w : Int} {q : Nat} (hr : smI y pc = some (.ifnull w, nx, kd, a, b, v))  (g : gw xs (WP xs d) y Q nx L st h mc ms) : gw xs (WP xs d) y Q pc L (.ref q :: st) h mc ms := gs hr (by
  exact g)
theorem g_ifnonnullN {xs : List Int32} {d y : Nat} {Q : QT} {pc : Nat} {L : LoS} {st : List Value} {h : AH} {mc ms : Nat} {nx kd a b : Nat} {v : Int32} {w : Int} (hr : smI y pc = some (.ifnonnull w, nx, kd, a, b, v))  (g : gw xs (WP xs d) y Q nx L st h mc ms) : gw xs (WP xs d) y Q pc L (.null :: st) h mc ms := gs hr (by
  exact g)
theorem g_ifnonnullR {xs : List Int32} {d y : Nat} {Q : QT} {pc : Nat} {L : LoS} {st : List Value} {h : AH} {mc ms : Nat} {nx kd a b : Nat} {v : Int32} {w : Int} {q : Nat} (hr : smI y pc = some (.ifnonnull w, nx, kd, a, b, v))  (g : gw xs (WP xs d) y Q a L st h mc ms) : gw xs (WP xs d) y Q pc L (.ref q :: st) h mc ms := gs hr (by
  exact g)
theorem g_gf {xs : List Int32} {d y : Nat} {Q : QT} {pc : Nat} {L : LoS} {st : List Value} {h : AH} {mc ms : Nat} {nx kd a b : Nat} {v : Int32} {n q : Nat} {fs : List Value} {u : Value} (hr : smI y pc = some (.getfield n, nx, kd, a, b, v)) (hc : smC xs h q = some (.inr (a, fs))) (hu : fs[b]? = some u) (g : gw xs (WP xs d) y Q nx L (u :: st) h mc ms) : gw xs (WP xs d) y Q pc L (.ref q :: st) h mc ms := gs hr (by
  dsimp only [stp, pR, cO, fO]
  rw [hc]
  dsimp only
  rw [if_pos rfl, hu]
  exact g)
theorem g_pf {xs : List Int32} {d y : Nat} {Q : QT} {pc : Nat} {L : LoS} {st : List Value} {h : AH} {mc ms : Nat} {nx kd a b : Nat} {v : Int32} {n q i : Nat} {fs fs2 : List Value} {u : Value} {h2 : AH} (hr : smI y pc = some (.putfield n, nx, kd, a, b, v)) (hu : c1V u = true) (hq : 32 ≤ q) (hc : smC xs h q = some (.inr (a, fs))) (hb : b < fs.length) (hf : fitV (tyT a b) u) (hfs : fs.set b u = fs2) (hi : q - 32 = i) (hh : h.set i (.inr (a, fs2)) = h2) (g : gw xs (WP xs d) y Q nx L st h2 mc ms) : gw xs (WP xs d) y Q pc L (u :: .ref q :: st) h mc ms := gs hr (by
  dsimp only [stp, pV, pR, cO]
  rw [if_pos hu, hc]
  dsimp only
  rw [if_pos rfl, hfs, hi, hh]
  exact ⟨hq, hb, hf, g⟩)
theorem g_gst {xs : List Int32} {d y : Nat} {Q : QT} {pc : Nat} {L : LoS} {st : List Value} {h : AH} {mc ms : Nat} {nx kd a b : Nat} {v : Int32} {n : Nat} {u : Value} (hr : smI y pc = some (.getstatic n, nx, kd, a, b, v)) (hu : (if a = 99 then Value.int 1 else .ref a) = u) (g : gw xs (WP xs d) y Q nx L (u :: st) h mc ms) : gw xs (WP xs d) y Q pc L st h mc ms := gs hr (by
  dsimp only [stp]
  rw [hu]
  exact g)
theorem g_iald {xs : List Int32} {d y : Nat} {Q : QT} {pc : Nat} {L : LoS} {st : List Value} {h : AH} {mc ms : Nat} {nx kd a b : Nat} {v : Int32} {q : Nat} {i x : Int32} {f : List Int32} (hr : smI y pc = some (.iaload, nx, kd, a, b, v)) (hc : smC xs h q = some (.inl (0, f))) (hi : vp_in i f.length) (hx : f.getD i.toNatClampNeg 0 = x) (g : gw xs (WP xs d) y Q nx L (.int x :: st) h mc ms) : gw xs (WP xs d) y Q pc L (.int i :: .ref q :: st) h mc ms := gs hr (by
  dsimp only [stp, pI, pR, cA]
  rw [hc]
  dsimp only
  rw [hx]
  exact ⟨rfl, hi, g⟩)
theorem g_bald {xs : List Int32} {d y : Nat} {Q : QT} {pc : Nat} {L : LoS} {st : List Value} {h : AH} {mc ms : Nat} {nx kd a b : Nat} {v : Int32} {q k : Nat} {i x : Int32} {f : List Int32} (hr : smI y pc = some (.baload, nx, kd, a, b, v)) (hc : smC xs h q = some (.inl (k, f))) (hk : (32 ≤ q ∧ k = 1) ∨ (q < 32 ∧ k = 3)) (hi : vp_in i f.length) (hx : f.getD i.toNatClampNeg 0 = x) (g : gw xs (WP xs d) y Q nx L (.int x :: st) h mc ms) : gw xs (WP xs d) y Q pc L (.int i :: .ref q :: st) h mc ms := gs hr (by
  dsimp only [stp, pI, pR, cA]
  rw [hc]
  dsimp only
  rw [hx]
  exact ⟨hk, hi, g⟩)
theorem g_aald {xs : List Int32} {d y : Nat} {Q : QT} {pc : Nat} {L : LoS} {st : List Value} {h : AH} {mc ms : Nat} {nx kd a b : Nat} {v : Int32} {q z : Nat} {i : Int32} {f : List Value} (hr : smI y pc = some (.aaload, nx, kd, a, b, v)) (hq : 32 ≤ q) (hc : smC xs h q = some (.inr (50, f))) (hi : vp_in i f.length) (hx : f[i.toNatClampNeg]? = some (.ref z)) (g : gw xs (WP xs d) y Q nx L (.ref z :: st) h mc ms) : gw xs (WP xs d) y Q pc L (.int i :: .ref q :: st) h mc ms := gs hr (by
  dsimp only [stp, pI, pR, cO, fO]
  rw [hc]
  dsimp only
  rw [if_pos rfl, hx]
  exact ⟨hq, hi, rfl, (fun z q => by cases q), g⟩)
theorem g_iast {xs : List Int32} {d y : Nat} {Q : QT} {pc : Nat} {L : LoS} {st : List Value} {h : AH} {mc ms : Nat} {nx kd a b : Nat} {v : Int32} {q j : Nat} {i x : Int32} {f f2 : List Int32} {h2 : AH} (hr : smI y pc = some (.iastore, nx, kd, a, b, v)) (hq : 32 ≤ q) (hc : smC xs h q = some (.inl (0, f))) (hi : vp_in i f.length) (hf : f.set i.toNatClampNeg x = f2) (hj : q - 32 = j) (hh : h.set j (.inl (0, f2)) = h2) (g : gw xs (WP xs d) y Q nx L st h2 mc ms) : gw xs (WP xs d) y Q pc L (.int x :: .int i :: .ref q :: st) h mc ms := gs hr (by
  dsimp only [stp, pI, pR, cA]
  rw [hc]
  dsimp only
  rw [hf, hj, hh]
  exact ⟨hq, rfl, hi, g⟩)
theorem g_bast {xs : List Int32} {d y : Nat} {Q : QT} {pc : Nat} {L : LoS} {st : List Value} {h : AH} {mc ms : Nat} {nx kd a b : Nat} {v : Int32} {q j : Nat} {i x : Int32} {f f2 : List Int32} {h2 : AH} (hr : smI y pc = some (.bastore, nx, kd, a, b, v)) (hq : 32 ≤ q) (hxx : x = 0 ∨ x = 1) (hc : smC xs h q = some (.inl (1, f))) (hi : vp_in i f.length) (hf : f.set i.toNatClampNeg x = f2) (hj : q - 32 = j) (hh : h.set j (.inl (1, f2)) = h2) (g : gw xs (WP xs d) y Q nx L st h2 mc ms) : gw xs (WP xs d) y Q pc L (.int x :: .int i :: .ref q :: st) h mc ms := gs hr (by
  dsimp only [stp, pI, pR, cA]
  rw [hc]
  dsimp only
  rw [hf, hj, hh]
  exact ⟨hq, hxx, rfl, hi, g⟩)
theorem g_alen {xs : List Int32} {d y : Nat} {Q : QT} {pc : Nat} {L : LoS} {st : List Value} {h : AH} {mc ms : Nat} {nx kd a b : Nat} {v : Int32} {q k n : Nat} {f : List Int32} (hr : smI y pc = some (.arraylength, nx, kd, a, b, v)) (hc : smC xs h q = some (.inl (k, f))) (hk : k = 0 ∨ k = 1 ∨ (q < 32 ∧ k = 3)) (hn : f.length = n) (g : gw xs (WP xs d) y Q nx L (.int (Int32.ofNat n) :: st) h mc ms) : gw xs (WP xs d) y Q pc L (.ref q :: st) h mc ms := gs hr (by
  dsimp only [stp, pR, cA]
  rw [hc]
  dsimp only
  rw [hn]
  exact ⟨hk, g⟩)
theorem g_max {xs : List Int32} {d y : Nat} {Q : QT} {pc : Nat} {L : LoS} {st : List Value} {h : AH} {mc ms : Nat} {nx a b n : Nat} {v x z u : Int32} (hr : smI y pc = some (.invokestatic n, nx, 2, a, b, v)) (hcat : catS st ≤ 8) (hu : (if x < z then z else x) = u) (g : gw xs (WP xs d) y Q nx L (.int u :: st) h mc ms) : gw xs (WP xs d) y Q pc L (.int z :: .int x :: st) h mc ms := gs hr (by
  show catS st ≤ 8 ∧ gw xs (WP xs d) y Q nx L (.int (if x < z then z else x) :: st) h mc ms
  rw [hu]
  exact ⟨hcat, g⟩)
theorem g_min {xs : List Int32} {d y : Nat} {Q : QT} {pc : Nat} {L : LoS} {st : List Value} {h : AH} {mc ms : Nat} {nx a b n : Nat} {v x z u : Int32} (hr : smI y pc = some (.invokestatic n, nx, 3, a, b, v)) (hcat : catS st ≤ 8) (hu : (if z < x then z else x) = u) (g : gw xs (WP xs d) y Q nx L (.int u :: st) h mc ms) : gw xs (WP xs d) y Q pc L (.int z :: .int x :: st) h mc ms := gs hr (by
  show catS st ≤ 8 ∧ gw xs (WP xs d) y Q nx L (.int (if z < x then z else x) :: st) h mc ms
  rw [hu]
  exact ⟨hcat, g⟩)
theorem g_cs {xs : List Int32} {d y : Nat} {Q : QT} {pc : Nat} {L : LoS} {st rest args : List Value} {h : AH} {mc ms : Nat} {nx a b n : Nat} {v : Int32} (kd : Nat) (hkd : kd = 0 ∨ kd = 1) (hr : smI y pc = some (.invokestatic n, nx, kd, a, b, v)) (hb : b ≤ st.length) (ht : (st.take b).reverse = args) (hd : st.drop b = rest) (hcat : catS rest ≤ 8) (g : WP xs d a 0 0 args h (fun r h2 => gw xs (WP xs d) y Q nx L (r.toList ++ rest) h2 mc ms)) : gw xs (WP xs d) y Q pc L st h mc ms := gs hr (by
  subst ht
  subst hd
  rcases hkd with rfl | rfl <;> exact ⟨hb, cl0 hcat g⟩)
theorem g_cv {xs : List Int32} {d y : Nat} {Q : QT} {pc : Nat} {L : LoS} {st rest args : List Value} {h : AH} {mc ms : Nat} {nx a b n : Nat} {v : Int32} {q : Nat} {fs : List Value} (hr : smI y pc = some (.invokevirtual n, nx, 20, a, b, v)) (hb : b ≤ st.length) (ht : (st.take b).reverse = args) (hd : st.drop b = .ref q :: rest) (hc : smC xs h q = some (.inr (mCn a, fs))) (hcat : catS rest ≤ 8) (g : WP xs d a 0 0 (.ref q :: args) h (fun r h2 => gw xs (WP xs d) y Q nx L (r.toList ++ rest) h2 mc ms)) : gw xs (WP xs d) y Q pc L st h mc ms := gs hr (by
  subst ht
  refine ⟨hb, ?_⟩
  rw [hd]
  dsimp only [pR, cO]
  rw [hc]
  dsimp only
  rw [if_pos rfl]
  exact cl0 hcat g)
theorem g_ci {xs : List Int32} {d y : Nat} {Q : QT} {pc : Nat} {L : LoS} {st rest args : List Value} {h : AH} {mc ms : Nat} {nx a b n : Nat} {v : Int32} {q : Nat} (kd : Nat) (hkd : kd = 10 ∨ kd = 11) (mc2 ms2 : Nat) (hr : smI y pc = some (.invokespecial n, nx, kd, a, b, v)) (hb : b ≤ st.length) (ht : (st.take b).reverse = args) (hd : st.drop b = .ref q :: rest) (hq : 32 ≤ q) (hcat : catS rest ≤ 8) (h1 : mc2 ≤ mc) (h2 : ms2 ≤ ms) (g : WP xs d a mc2 ms2 (.ref q :: args) h (fun r h2 => gw xs (WP xs d) y Q nx L (r.toList ++ rest) h2 (mc - mc2) (ms - ms2))) : gw xs (WP xs d) y Q pc L st h mc ms := gs hr (by
  subst ht
  rcases hkd with rfl | rfl
  all_goals
    refine ⟨hb, ?_⟩
    rw [hd]
    exact ⟨hq, cl mc2 ms2 hcat h1 h2 g⟩)
theorem g_iret {xs : List Int32} {d y : Nat} {Q : QT} {pc : Nat} {L : LoS} {h : AH} {mc ms : Nat} {nx kd a b : Nat} {v : Int32} {x : Int32} (hr : smI y pc = some (.ireturn, nx, kd, a, b, v)) (ht : mRt y = some .int) (g : Q (some (.int x)) h) : gw xs (WP xs d) y Q pc L [.int x] h mc ms := gs hr (by
  dsimp only [stp, pI]
  rw [ht]
  exact ⟨rfl, g⟩)
theorem g_zret {xs : List Int32} {d y : Nat} {Q : QT} {pc : Nat} {L : LoS} {h : AH} {mc ms : Nat} {nx kd a b : Nat} {v : Int32} {x : Int32} (hr : smI y pc = some (.ireturn, nx, kd, a, b, v)) (ht : mRt y = some .boolean) (hx : x = 0 ∨ x = 1) (g : Q (some (.int x)) h) : gw xs (WP xs d) y Q pc L [.int x] h mc ms := gs hr (by
  dsimp only [stp, pI]
  rw [ht]
  exact ⟨rfl, hx, g⟩)
theorem g_aret {xs : List Int32} {d y : Nat} {Q : QT} {pc : Nat} {L : LoS} {h : AH} {mc ms : Nat} {nx kd a b : Nat} {v : Int32} {x : Nat} (hr : smI y pc = some (.areturn, nx, kd, a, b, v)) (g : Q (some (.ref x)) h) : gw xs (WP xs d) y Q pc L [.ref x] h mc ms := gs hr ⟨rfl, (fun z q => by cases q), g⟩
theorem g_vret {xs : List Int32} {d y : Nat} {Q : QT} {pc : Nat} {L : LoS} {h : AH} {mc ms : Nat} {nx kd a b : Nat} {v : Int32} (hr : smI y pc = some (.return_, nx, kd, a, b, v)) (g : Q none h) : gw xs (WP xs d) y Q pc L [] h mc ms := gs hr ⟨rfl, g⟩
theorem wp_in {xs : List Int32} {d a mc ms : Nat} {as : List Value} {h : AH} {Q : QT} {L : LoS} (hl : (slV as).length ≤ mMx a) (hL : entL (mMx a) as = L) (g : gw xs (WP xs d) a Q 0 L [] h mc ms) : WP xs (d + 1) a mc ms as h Q := by
  subst hL
  exact ⟨hl, g⟩
