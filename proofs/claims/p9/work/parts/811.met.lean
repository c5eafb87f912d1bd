/-! A RUN OF THE SMALL MACHINE IS A CONTRACT -/
set_option maxHeartbeats 1000000 in
theorem ret_met {p : Program} {l : Launch} {e : Env} {R : Room} {s : State} {m : MethodId} {args : Array Value} {below : List Frame} {meth : Method} {c : Code} {G : AG} {y mc ms : Nat} {Q : QT} (hx : p.tables.exec = Jvm.exec) (hb : c.code = mCd y) (hr : meth.sig.returnType = mRt y) (hlocks : meth.locks = false) (hc : R.cells = mc) (hs : R.slots = ms) :
    RetOk p l e R s m args below meth c G y (MQ below (QcM G Q) args s mc ms (AbA G)) Q := by
  subst hc
  subst hs
  refine ⟨fun x h H locs cells slots pc ls hty hq hW hS hc1 hs1 hd => ?_, fun v h H locs cells slots pc ls hty hv hq hW hS hc1 hs1 hd => ?_, fun h H locs cells slots pc ls hty hq hW hS hc1 hs1 hd => ?_⟩
  · refine W.widen (k := R.cells) (n := R.slots) hc1 hs1 ?_
    obtain ⟨ty, h1, h2⟩ : ∃ ty, mRt y = some ty ∧ narrow ty (.int x) = .int x := by
      rcases hty with h1 | ⟨h1, h2⟩ | ⟨h1, h2⟩
      · exact ⟨_, h1, rfl⟩
      · exact ⟨_, h1, nar_b h2⟩
      · refine ⟨_, h1, ?_⟩
        show Value.int x.toInt8.toInt32 = .int x
        congr 1
        obtain ⟨h3, h4⟩ := h2
        have h5 := Int32.le_iff_toInt_le.mp h3
        have h6 := Int32.le_iff_toInt_le.mp h4
        apply Int32.toInt.inj
        rw [Int8.toInt_toInt32, Int32.toInt_toInt8]
        have e1 : (-128 : Int32).toInt = -128 := by decide
        have e2 : (127 : Int32).toInt = 127 := by decide
        rw [e1] at h5
        rw [e2] at h6
        exact Int.bmod_eq_of_le (by omega) (by omega)
    exact W.zret hx hb (by rw [hr, h1]) h2 (fun t ht hWm => ⟨⟨some (.int x), h, rfl, hq, by rw [ht]; exact hW⟩, hS.F ht⟩) hS.2.2 hd hlocks
  · refine W.widen (k := R.cells) (n := R.slots) hc1 hs1 ?_
    obtain ⟨ty, h1, h2⟩ : ∃ ty, mRt y = some ty ∧ ((∃ n, ty = .object n) ∨ ∃ t, ty = .array t) := by
      rcases hty with ⟨n, h1⟩ | ⟨t, h1⟩
      · exact ⟨_, h1, Or.inl ⟨n, rfl⟩⟩
      · exact ⟨_, h1, Or.inr ⟨t, rfl⟩⟩
    have hv' : cv G v = .null ∨ ∃ a, cv G v = .ref a := by
      rcases hv with rfl | ⟨a, rfl⟩
      · exact Or.inl rfl
      · exact Or.inr ⟨_, rfl⟩
    exact W.aret hx hb (by rw [hr, h1]) h2 hv' (fun t ht hWm => ⟨⟨some v, h, rfl, hq, by rw [ht]; exact hW⟩, hS.F ht⟩) hS.2.2 hd hlocks
  · refine W.widen (k := R.cells) (n := R.slots) hc1 hs1 ?_
    exact W.vret hx hb (by rw [hr, hty]) (fun t ht hWm => ⟨⟨none, h, rfl, hq, by rw [ht]; exact hW⟩, hS.F ht⟩) hS.2.2 hd hlocks
set_option maxHeartbeats 1000000 in
theorem WP_met (l : Launch) (G : AG) (xs : List Int32) : ∀ d, CallOk l G xs d (WP xs d) := by
  intro d
  induction d with
  | zero => intro a mc ms as h Q ha q; exact q.elim
  | succ d ih =>
    intro a mc ms as h Q ha q
    obtain ⟨hlen, hgw⟩ := q
    obtain ⟨o1, o2, o3, o4, o5, o6, o7, o8, o9, o10, o11⟩ := okM_e ha
    refine Met.ofW (cc := mCd a) (maxL := mMx a) (ret := mRt a) (ws' := tblG) o11 (by unfold wsM; rfl) ?_
    intro p e s m args below meth c s₁ B hml hv
    obtain ⟨rfl, hW0, hAm⟩ := hv
    have hts : ∀ w ∈ tblG, w.before ((as.map (cv G)).toArray) s = true := fun w hw => atoms_spec (ws := wsM a) B.pre w (List.mem_cons_of_mem _ hw)
    have hown : s.vm.findClass (clsN (mCn a)) = some m.cls := by
      rw [← o5]
      exact findClass_of_methodNamed B.named
    have E : EnvM p (headSpec (wsM a) (rmM (d + 1) mc ms)).room s m ((as.map (cv G)).toArray) meth c G xs a d :=
      ⟨B.exec, B.bytes, hml, hown, hts, hAm, fun q => by rw [(name_of_methodNamed B.named B.method).1]; exact (o8 q).1, by rw [hW0.1]; exact Nat.le_add_right _ _, Nat.le_refl _, Nat.le_refl _⟩
    rw [lg_entry_eq]
    exact hgw (KW p l e (headSpec (wsM a) (rmM (d + 1) mc ms)).room s m ((as.map (cv G)).toArray) below meth c G a (MQ below (QcM G Q) ((as.map (cv G)).toArray) s mc ms (AbA G)))
      (fun pc L st h mc1 ms1 r hr hs => stp_W E ih (ret_met B.exec B.bytes B.returns B.notSynchronized rfl rfl) hr hs)
      [] s.heap _ 0 0 hW0 va_S.rf (lvO_entry G hlen) (Nat.zero_add _) (Nat.zero_add _)
