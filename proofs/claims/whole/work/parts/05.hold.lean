/-! THE TABLES HOLD, by the kernel -/
set_option maxRecDepth 100000 in
theorem j_codes : (List.range j_N).map j_cw = j_cop.filterMap (fun i => lw_tbl[i]?) := rfl
set_option maxRecDepth 100000 in
theorem j_codes_good : ((List.range j_N).map j_cw).all goodWord = true := by decide +kernel
theorem j_code_in {y : Nat} (h : y < j_N) : j_cw y ∈ jT := by
  have h1 : j_cw y ∈ (List.range j_N).map j_cw := List.mem_map.mpr ⟨y, List.mem_range.mpr h, rfl⟩
  refine jT_of ?_ (List.all_eq_true.mp j_codes_good _ h1)
  rw [j_codes] at h1
  obtain ⟨i, -, hi⟩ := List.mem_filterMap.mp h1
  exact List.mem_of_getElem? hi
def j_initW : List Cond := (List.range j_N).map (fun y => Cond.initialized (j_nm y).cls)
def j_instW : List Cond := (List.range j_N).map (fun y => if (j_ca.any (fun q => q.2.2.2 == y && (q.2.2.1 == 1 || q.2.2.1 == 4 || q.2.2.1 == 6 || q.2.2.1 == 7))) = true then Cond.static (j_nm y) else Cond.instanceMethod (j_nm y))
set_option maxRecDepth 100000 in
theorem j_initW_ok : (j_initW.zip j_inp).all j_at = true := by decide +kernel
set_option maxRecDepth 100000 in
theorem j_instW_ok : (j_instW.zip j_imp).all j_at = true := by decide +kernel
def j_flW (q : Nat × Nat × Nat × Nat × Bool) : Cond := match j_cl[q.2.2.1]? with
  | some r => if q.2.2.2.2 = true then .fieldLinkNest (j_cname q.1) q.2.1 r.1 (r.2.1 q.2.2.2.1).2.1 (r.2.1 q.2.2.2.1).2.2.1 "JumpFlows" else .fieldLink (j_cname q.1) q.2.1 r.1 (r.2.1 q.2.2.2.1).2.1 (r.2.1 q.2.2.2.1).2.2.1
  | none => .tt
set_option maxRecDepth 100000 in
theorem j_flW_ok : ((j_fl.map j_flW).zip j_flp).all j_at = true := by decide +kernel
theorem j_fl_in {o i c k : Nat} {b : Bool} (h : j_lk j_fl o i = some (c, k, b)) : j_flW (o, i, c, k, b) ∈ lw_tbl :=
  j_at_all (by decide +kernel) j_flW_ok _ (List.mem_map.mpr ⟨_, j_lk_mem h, rfl⟩)
def j_caW (q : Nat × Nat × Nat × Nat) : Cond := if q.2.2.1 = 3 then .methodLink (j_cname q.1) q.2.1 Lib.objectInit else if q.2.2.1 < 3 ∨ 5 < q.2.2.1 then .methodLink (j_cname q.1) q.2.1 (j_nm q.2.2.2) else .methodLinkNest (j_cname q.1) q.2.1 (j_nm q.2.2.2) "JumpFlows"
set_option maxRecDepth 100000 in
theorem j_caW_ok : ((j_ca.map j_caW).zip j_cap).all j_at = true := by decide +kernel
theorem j_ca_in {o i k y : Nat} (h : j_lk j_ca o i = some (k, y)) : j_caW (o, i, k, y) ∈ lw_tbl :=
  j_at_all (by decide +kernel) j_caW_ok _ (List.mem_map.mpr ⟨_, j_lk_mem h, rfl⟩)
def j_nwW (q : Nat × Nat × Nat) : Cond := .classLink (j_cname q.1) q.2.1 (j_cname q.2.2)
set_option maxRecDepth 100000 in
theorem j_nwW_ok : ((j_nw.map j_nwW).zip j_nwp).all j_at = true := by decide +kernel
theorem j_nw_in {o i c : Nat} (h : j_lk j_nw o i = some c) : j_nwW (o, i, c) ∈ lw_tbl :=
  j_at_all (by decide +kernel) j_nwW_ok _ (List.mem_map.mpr ⟨_, j_lk_mem h, rfl⟩)
def j_klW (q : Nat × Nat × Int64) : Cond := .constantLong (j_cname q.1) q.2.1 q.2.2
set_option maxRecDepth 100000 in
theorem j_klW_ok : ((j_kl.map j_klW).zip j_klp).all j_at = true := by decide +kernel
theorem j_kl_in {o i : Nat} {v : Int64} (h : j_lk j_kl o i = some v) : j_klW (o, i, v) ∈ lw_tbl :=
  j_at_all (by decide +kernel) j_klW_ok _ (List.mem_map.mpr ⟨_, j_lk_mem h, rfl⟩)
def j_isW : List Cond := j_cl.map (fun r => Cond.instantiable r.1 r.2.2)
set_option maxRecDepth 100000 in
theorem j_isW_ok : (j_isW.zip j_isp).all j_at = true := by decide +kernel
set_option maxRecDepth 100000 in
theorem j_lyW_ok : ((j_cl.flatMap (fun r => u_ws r.1 r.2.1 r.2.2)).zip j_lyp.flatten).all j_at = true := by decide +kernel
set_option maxRecDepth 100000 in
theorem j_ly_good : (j_cl.flatMap (fun r => u_ws r.1 r.2.1 r.2.2)).all goodWord = true := by decide +kernel
theorem j_ly_in {c : Nat} {r : vw_C} (h : j_cl[c]? = some r) : ∀ w ∈ u_ws r.1 r.2.1 r.2.2, w ∈ jT := by
  intro w hw
  have h1 : w ∈ j_cl.flatMap (fun r => u_ws r.1 r.2.1 r.2.2) := List.mem_flatMap.mpr ⟨r, List.mem_of_getElem? h, hw⟩
  exact jT_of (j_at_all (by decide +kernel) j_lyW_ok w h1) (List.all_eq_true.mp j_ly_good w h1)
