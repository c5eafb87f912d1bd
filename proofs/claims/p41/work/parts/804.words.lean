/-! THE TABLES' WORDS: each of the small machine's lists stands in the claim's tables -/
noncomputable def tblG : List Cond := lw_tbl.filter goodWord
theorem tblG_of {w : Cond} {i : Nat} (h : lw_tbl[i]? = some w) (hg : goodWord w = true) : w ∈ tblG := List.mem_filter.mpr ⟨List.mem_of_getElem? h, hg⟩
def sg_0 : List Cond := lw_tbl
def sg_1 : List Cond := sg_0.drop 64
def sg_2 : List Cond := sg_1.drop 64
def sg_3 : List Cond := sg_2.drop 64
def sg_4 : List Cond := sg_3.drop 64
def sg_5 : List Cond := sg_4.drop 64
def sg_6 : List Cond := sg_5.drop 64
def sg_7 : List Cond := sg_6.drop 64
def sg_8 : List Cond := sg_7.drop 64
def sg_9 : List Cond := sg_8.drop 64
def sg_10 : List Cond := sg_9.drop 64
def sg_11 : List Cond := sg_10.drop 64
def sg_12 : List Cond := sg_11.drop 64
def sg_13 : List Cond := sg_12.drop 64
def sg_14 : List Cond := sg_13.drop 64
def sg_15 : List Cond := sg_14.drop 64
def sg_16 : List Cond := sg_15.drop 64
def sg_17 : List Cond := sg_16.drop 64
def sg_18 : List Cond := sg_17.drop 64
theorem sg_m0 : ∀ w ∈ sg_0, w ∈ lw_tbl := fun _ h => h
theorem sg_m1 : ∀ w ∈ sg_1, w ∈ lw_tbl := fun w h => sg_m0 w (List.mem_of_mem_drop h)
theorem sg_m2 : ∀ w ∈ sg_2, w ∈ lw_tbl := fun w h => sg_m1 w (List.mem_of_mem_drop h)
theorem sg_m3 : ∀ w ∈ sg_3, w ∈ lw_tbl := fun w h => sg_m2 w (List.mem_of_mem_drop h)
theorem sg_m4 : ∀ w ∈ sg_4, w ∈ lw_tbl := fun w h => sg_m3 w (List.mem_of_mem_drop h)
theorem sg_m5 : ∀ w ∈ sg_5, w ∈ lw_tbl := fun w h => sg_m4 w (List.mem_of_mem_drop h)
theorem sg_m6 : ∀ w ∈ sg_6, w ∈ lw_tbl := fun w h => sg_m5 w (List.mem_of_mem_drop h)
theorem sg_m7 : ∀ w ∈ sg_7, w ∈ lw_tbl := fun w h => sg_m6 w (List.mem_of_mem_drop h)
theorem sg_m8 : ∀ w ∈ sg_8, w ∈ lw_tbl := fun w h => sg_m7 w (List.mem_of_mem_drop h)
theorem sg_m9 : ∀ w ∈ sg_9, w ∈ lw_tbl := fun w h => sg_m8 w (List.mem_of_mem_drop h)
theorem sg_m10 : ∀ w ∈ sg_10, w ∈ lw_tbl := fun w h => sg_m9 w (List.mem_of_mem_drop h)
theorem sg_m11 : ∀ w ∈ sg_11, w ∈ lw_tbl := fun w h => sg_m10 w (List.mem_of_mem_drop h)
theorem sg_m12 : ∀ w ∈ sg_12, w ∈ lw_tbl := fun w h => sg_m11 w (List.mem_of_mem_drop h)
theorem sg_m13 : ∀ w ∈ sg_13, w ∈ lw_tbl := fun w h => sg_m12 w (List.mem_of_mem_drop h)
theorem sg_m14 : ∀ w ∈ sg_14, w ∈ lw_tbl := fun w h => sg_m13 w (List.mem_of_mem_drop h)
theorem sg_m15 : ∀ w ∈ sg_15, w ∈ lw_tbl := fun w h => sg_m14 w (List.mem_of_mem_drop h)
theorem sg_m16 : ∀ w ∈ sg_16, w ∈ lw_tbl := fun w h => sg_m15 w (List.mem_of_mem_drop h)
theorem sg_m17 : ∀ w ∈ sg_17, w ∈ lw_tbl := fun w h => sg_m16 w (List.mem_of_mem_drop h)
theorem sg_m18 : ∀ w ∈ sg_18, w ∈ lw_tbl := fun w h => sg_m17 w (List.mem_of_mem_drop h)
def sgL : List (List Cond) := [sg_0, sg_1, sg_2, sg_3, sg_4, sg_5, sg_6, sg_7, sg_8, sg_9, sg_10, sg_11, sg_12, sg_13, sg_14, sg_15, sg_16, sg_17, sg_18]
theorem sgL_m : ∀ l ∈ sgL, ∀ w ∈ l, w ∈ lw_tbl := List.forall_mem_cons.mpr ⟨sg_m0, List.forall_mem_cons.mpr ⟨sg_m1, List.forall_mem_cons.mpr ⟨sg_m2, List.forall_mem_cons.mpr ⟨sg_m3, List.forall_mem_cons.mpr ⟨sg_m4, List.forall_mem_cons.mpr ⟨sg_m5, List.forall_mem_cons.mpr ⟨sg_m6, List.forall_mem_cons.mpr ⟨sg_m7, List.forall_mem_cons.mpr ⟨sg_m8, List.forall_mem_cons.mpr ⟨sg_m9, List.forall_mem_cons.mpr ⟨sg_m10, List.forall_mem_cons.mpr ⟨sg_m11, List.forall_mem_cons.mpr ⟨sg_m12, List.forall_mem_cons.mpr ⟨sg_m13, List.forall_mem_cons.mpr ⟨sg_m14, List.forall_mem_cons.mpr ⟨sg_m15, List.forall_mem_cons.mpr ⟨sg_m16, List.forall_mem_cons.mpr ⟨sg_m17, List.forall_mem_cons.mpr ⟨sg_m18, fun _ h => absurd h List.not_mem_nil⟩⟩⟩⟩⟩⟩⟩⟩⟩⟩⟩⟩⟩⟩⟩⟩⟩⟩⟩
theorem sgL_w {i j : Nat} {w : Cond} (h : (sgL.getD i [])[j]? = some w) : w ∈ lw_tbl := by
  have h2 := List.mem_of_getElem? h
  rw [List.getD_eq_getElem?_getD] at h2
  cases e : sgL[i]? with
  | none =>
    rw [e] at h2
    simp at h2
  | some l =>
    rw [e] at h2
    exact sgL_m l (List.mem_of_getElem? e) w h2
def inT (i : Nat) (w : Cond) : Bool := decide ((sgL.getD (i / 64) [])[i % 64]? = some w) && goodWord w
theorem inT_e {i : Nat} {w : Cond} (h : inT i w = true) : w ∈ tblG := by
  unfold inT at h
  rw [Bool.and_eq_true] at h
  exact List.mem_filter.mpr ⟨sgL_w (of_decide_eq_true h.1), h.2⟩
def FLl : List (Nat × Nat × Nat × Nat) := FLz.map Prod.fst
def wFL (q : Nat × Nat × Nat × Nat) : Cond := .fieldLink (clsN q.1) q.2.1 (TT q.2.2.1 q.2.2.2).1 (TT q.2.2.1 q.2.2.2).2.1 (TT q.2.2.1 q.2.2.2).2.2.1
theorem FL_c : FLz.all (fun z => inT z.2 (wFL z.1) && decide (z.1.2.2.2 < nfT z.1.2.2.1) && decide (z.1.2.2.1 < 8)) = true := by decide +kernel
theorem FL_w : ∀ q ∈ FLl, wFL q ∈ tblG ∧ q.2.2.2 < nfT q.2.2.1 ∧ q.2.2.1 < 8 := by
  intro q hq
  obtain ⟨z, hz, rfl⟩ := List.mem_map.mp hq
  have h := List.all_eq_true.mp FL_c z hz
  simp only [Bool.and_eq_true, decide_eq_true_eq] at h
  exact ⟨inT_e h.1.1, h.1.2, h.2⟩
def MLl : List (Nat × Nat × Nat × Nat) := MLz.map Prod.fst
theorem ML_c : MLz.all (fun z => inT z.2 (.methodLink (clsN z.1.1) z.1.2.1 (mNm z.1.2.2.1))) = true := by decide +kernel
theorem ML_w : ∀ q ∈ MLl, Cond.methodLink (clsN q.1) q.2.1 (mNm q.2.2.1) ∈ tblG := by
  intro q hq
  obtain ⟨z, hz, rfl⟩ := List.mem_map.mp hq
  exact inT_e (List.all_eq_true.mp ML_c z hz)
def MSl : List (Nat × Nat × Nat) := MSz.map Prod.fst
def spN : Nat → MethodName := fun k => match k with
  | 2 => Lib.Math.max.name
  | 3 => Lib.Math.min.name
  | 4 => arraycopyName
  | 5 => ⟨"[I", "clone", "()Ljava/lang/Object;"⟩
  | _ => objectInit
theorem MS_c : MSz.all (fun z => inT z.2 (.methodLink (clsN z.1.1) z.1.2.1 (spN z.1.2.2))) = true := by decide +kernel
theorem MS_w : ∀ q ∈ MSl, Cond.methodLink (clsN q.1) q.2.1 (spN q.2.2) ∈ tblG := by
  intro q hq
  obtain ⟨z, hz, rfl⟩ := List.mem_map.mp hq
  exact inT_e (List.all_eq_true.mp MS_c z hz)
def CLl : List (Nat × Nat × Nat) := CLz.map Prod.fst
def tgN : Nat → String := fun k => if k = 90 then "[I" else clsN k
theorem CL_c : CLz.all (fun z => inT z.2 (.classLink (clsN z.1.1) z.1.2.1 (tgN z.1.2.2))) = true := by decide +kernel
theorem CL_w : ∀ q ∈ CLl, Cond.classLink (clsN q.1) q.2.1 (tgN q.2.2) ∈ tblG := by
  intro q hq
  obtain ⟨z, hz, rfl⟩ := List.mem_map.mp hq
  exact inT_e (List.all_eq_true.mp CL_c z hz)
def COl : List (Nat × Nat × Int32) := COz.map Prod.fst
theorem CO_c : COz.all (fun z => inT z.2 (.constant (clsN z.1.1) z.1.2.1 z.1.2.2)) = true := by decide +kernel
theorem CO_w : ∀ q ∈ COl, Cond.constant (clsN q.1) q.2.1 q.2.2 ∈ tblG := by
  intro q hq
  obtain ⟨z, hz, rfl⟩ := List.mem_map.mp hq
  exact inT_e (List.all_eq_true.mp CO_c z hz)
def C2l : List (Nat × Nat × Nat) := C2z.map Prod.fst
theorem C2_c : C2z.all (fun z => inT z.2 (.constantLong (clsN z.1.1) z.1.2.1 (Int64.ofNat z.1.2.2))) = true := by decide +kernel
theorem C2_w : ∀ q ∈ C2l, Cond.constantLong (clsN q.1) q.2.1 (Int64.ofNat q.2.2) ∈ tblG := by
  intro q hq
  obtain ⟨z, hz, rfl⟩ := List.mem_map.mp hq
  exact inT_e (List.all_eq_true.mp C2_c z hz)
def SFl : List (Nat × Nat × Nat) := SFz.map Prod.fst
def sfN (k : Nat) : String := if k = 0 then "value" else "coder"
def sfD (k : Nat) : String := if k = 0 then "[B" else "B"
theorem SF_c : SFz.all (fun z => inT z.2 (.fieldLink (clsN z.1.1) z.1.2.1 "java/lang/String" (sfN z.1.2.2) (sfD z.1.2.2)) && decide (z.1.2.2 < 2)) = true := by decide +kernel
theorem SF_w : ∀ q ∈ SFl, Cond.fieldLink (clsN q.1) q.2.1 "java/lang/String" (sfN q.2.2) (sfD q.2.2) ∈ tblG ∧ q.2.2 < 2 := by
  intro q hq
  obtain ⟨z, hz, rfl⟩ := List.mem_map.mp hq
  have h := List.all_eq_true.mp SF_c z hz
  simp only [Bool.and_eq_true, decide_eq_true_eq] at h
  exact ⟨inT_e h.1, h.2⟩
def GSl : List (Nat × Nat × Nat) := GSz.map Prod.fst
def gsC (k : Nat) : String := if k = 99 then "java/lang/String" else "LooksServed"
def gsN (k : Nat) : String := if k = 99 then "COMPACT_STRINGS" else if k = 1 then "ABOVE" else "BODIES"
def gsD (k : Nat) : String := if k = 99 then "Z" else "[I"
theorem GS_c : GSz.all (fun z => inT z.2 (.fieldLink (clsN z.1.1) z.1.2.1 (gsC z.1.2.2) (gsN z.1.2.2) (gsD z.1.2.2)) && decide (z.1.2.2 = 1 ∨ z.1.2.2 = 2 ∨ z.1.2.2 = 99)) = true := by decide +kernel
theorem GS_w : ∀ q ∈ GSl, Cond.fieldLink (clsN q.1) q.2.1 (gsC q.2.2) (gsN q.2.2) (gsD q.2.2) ∈ tblG ∧ (q.2.2 = 1 ∨ q.2.2 = 2 ∨ q.2.2 = 99) := by
  intro q hq
  obtain ⟨z, hz, rfl⟩ := List.mem_map.mp hq
  have h := List.all_eq_true.mp GS_c z hz
  simp only [Bool.and_eq_true, decide_eq_true_eq] at h
  exact ⟨inT_e h.1, h.2⟩
-- a method's own words
def mPl (y : Nat) : Nat × Nat × Nat × Nat := MPl.getD y (0, 0, 0, 0)
def okM (y : Nat) : Bool := (if mFl y = 0 then inT (mPl y).2.1 (.static (mNm y)) else inT (mPl y).2.1 (.instanceMethod (mNm y))) && (if mFl y = 1 then inT (mPl y).2.2.1 (.selects (mNm y).cls (mNm y) (mNm y)) else true) && inT (mPl y).2.2.2 (.initialized (mNm y).cls) &&
  decide ((mNm y).cls = clsN (mCn y)) && decide ((parseMethodDescriptor (mNm y).desc).map (fun d => d.parameters.length) = some (mNa y)) && decide (mMx y ≤ 45) && (if mFl y = 2 then decide ((mNm y).name = "<init>") && decide (mRt y = none) else true) &&
  decide ((mNm y).cls ≠ "java/lang/invoke/MethodHandle") && decide ((mNm y).cls ≠ "java/lang/invoke/VarHandle") && plainName (mNm y).cls
set_option maxRecDepth 20000 in
theorem okM_c : (List.range 190).all okM = true := by decide +kernel
theorem okM_all {y : Nat} (h : y < 190) : okM y = true := List.all_eq_true.mp okM_c y (List.mem_range.mpr h)
theorem ws_0 : ∀ ci, ci < 8 → ∀ w ∈ u_ws (clsN ci) (TT ci) (nfT ci), w ∈ lw_tbl ∧ goodWord w = true := by decide +kernel
theorem ws_in {ci : Nat} (h : ci < 8) : ∀ w ∈ u_ws (clsN ci) (TT ci) (nfT ci), w ∈ tblG := fun w hw => List.mem_filter.mpr (ws_0 ci h w hw)
theorem vw_at {ci : Nat} (h : ci < 8) : vwCl[ci]? = some (clsN ci, TT ci, nfT ci) := by
  rcases (show ci = 0 ∨ ci = 1 ∨ ci = 2 ∨ ci = 3 ∨ ci = 4 ∨ ci = 5 ∨ ci = 6 ∨ ci = 7 by omega) with h | h | h | h | h | h | h | h <;> subst h <;> rfl
theorem ty_ok {ci : Nat} (h : ci < 8) : ∀ k, k < nfT ci → parseFieldDescriptor (TT ci k).2.2.1 = some (tyT ci k) := by
  rcases (show ci = 0 ∨ ci = 1 ∨ ci = 2 ∨ ci = 3 ∨ ci = 4 ∨ ci = 5 ∨ ci = 6 ∨ ci = 7 by omega) with h | h | h | h | h | h | h | h <;> subst h
  · exact tyX0_ok
  · exact tyX1_ok
  · exact tyX2_ok
  · exact tyX3_ok
  · exact tyX4_ok
  · exact tyX5_ok
  · exact tyX6_ok
  · exact tyX7_ok
theorem nm_ok {ci : Nat} (h : ci < 8) : ∀ a, a < nfT ci → ∀ b, b < nfT ci → a ≠ b → (TT ci a).2.1 ≠ (TT ci b).2.1 := by
  rcases (show ci = 0 ∨ ci = 1 ∨ ci = 2 ∨ ci = 3 ∨ ci = 4 ∨ ci = 5 ∨ ci = 6 ∨ ci = 7 by omega) with h | h | h | h | h | h | h | h <;> subst h
  · exact nmX0
  · exact nmX1
  · exact nmX2
  · exact nmX3
  · exact nmX4
  · exact nmX5
  · exact nmX6
  · exact nmX7
theorem in_c : INl.all (fun q => decide (Cond.instantiable (clsN q.1) q.2.2 ∈ lw_tbl) && goodWord (Cond.instantiable (clsN q.1) q.2.2) && decide (Cond.initialized (clsN q.1) ∈ lw_tbl) && decide (q.2.2 = nfT q.1)) = true := by decide +kernel
theorem in_w {ci b : Nat} (h : ∃ i, (ci, i, b) ∈ INl) : Cond.instantiable (clsN ci) (nfT ci) ∈ tblG ∧ Cond.initialized (clsN ci) ∈ tblG ∧ b = nfT ci := by
  obtain ⟨i, h⟩ := h
  have h1 := List.all_eq_true.mp in_c _ h
  simp only [Bool.and_eq_true, decide_eq_true_eq] at h1
  obtain ⟨⟨⟨h2, h3⟩, h4⟩, h5⟩ := h1
  subst h5
  exact ⟨List.mem_filter.mpr ⟨h2, h3⟩, List.mem_filter.mpr ⟨h4, rfl⟩, rfl⟩
theorem tw {w : Cond} (h : w ∈ lw_tbl ∧ goodWord w = true) : w ∈ tblG := List.mem_filter.mpr h
theorem tw_int : Cond.arrayClass .int ∈ tblG := tw (by decide +kernel)
theorem tw_bool : Cond.arrayClass .boolean ∈ tblG := tw (by decide +kernel)
theorem tw_max : Cond.static Lib.Math.max.name ∈ tblG ∧ Cond.initialized "java/lang/Math" ∈ tblG ∧ Cond.code Lib.Math.max.name Lib.Math.max.code 2 (some .int) ∈ tblG := ⟨tw (by decide +kernel), tw (by decide +kernel), tw (by decide +kernel)⟩
theorem tw_min : Cond.static Lib.Math.min.name ∈ tblG ∧ Cond.code Lib.Math.min.name Lib.Math.min.code 2 (some .int) ∈ tblG := ⟨tw (by decide +kernel), tw (by decide +kernel)⟩
theorem tw_copy : Cond.native arraycopyName ∈ tblG ∧ Cond.static arraycopyName ∈ tblG ∧ Cond.initialized "java/lang/System" ∈ tblG := ⟨tw (by decide +kernel), tw (by decide +kernel), tw (by decide +kernel)⟩
theorem tw_clone : Cond.sameMethod "[I" "java/lang/Object" "clone" "()Ljava/lang/Object;" ∈ tblG ∧ Cond.native ⟨"java/lang/Object", "clone", "()Ljava/lang/Object;"⟩ ∈ tblG ∧ Cond.instanceMethod ⟨"java/lang/Object", "clone", "()Ljava/lang/Object;"⟩ ∈ tblG ∧ Cond.selects "[I" ⟨"[I", "clone", "()Ljava/lang/Object;"⟩ ⟨"java/lang/Object", "clone", "()Ljava/lang/Object;"⟩ ∈ tblG := ⟨tw (by decide +kernel), tw (by decide +kernel), tw (by decide +kernel), tw (by decide +kernel)⟩
theorem tw_obj : Cond.instanceMethod objectInit ∈ tblG ∧ Cond.code objectInit ⟨#[0xb1]⟩ 1 none ∈ tblG := ⟨tw (by decide +kernel), tw (by decide +kernel)⟩
