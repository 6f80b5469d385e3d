theorem gn {big : List Cond} : GoodIn big [] := fun w h => absurd h List.not_mem_nil
theorem gkp0 {big p t : List Cond} {w : Cond} (hp : ∀ w ∈ p, w ∈ big) (i : Nat) (hg : goodWord w = true) (h : p[i]? = some w) (ht : GoodIn big t) : GoodIn big (w :: t) := fun x hx => (List.mem_cons.mp hx).elim (fun e => by rw [e]; exact ⟨hp w (List.mem_of_getElem? h), good_of_word hg⟩) (ht x)
theorem gkp_arrayClass {big p t : List Cond} {a0} (hp : ∀ w ∈ p, w ∈ big) (i : Nat) (h : p[i]? = some (.arrayClass a0)) (ht : GoodIn big t) : GoodIn big (.arrayClass a0 :: t) := gkp0 hp i rfl h ht
theorem gk_arrayClass {big t : List Cond} {a0} (i : Nat) (h : big[i]? = some (.arrayClass a0)) (ht : GoodIn big t) : GoodIn big (.arrayClass a0 :: t) := gkp0 (fun _ q => q) i rfl h ht
theorem gkp_classLink {big p t : List Cond} {a0 a1 a2} (hp : ∀ w ∈ p, w ∈ big) (i : Nat) (h : p[i]? = some (.classLink a0 a1 a2)) (ht : GoodIn big t) : GoodIn big (.classLink a0 a1 a2 :: t) := gkp0 hp i rfl h ht
theorem gk_classLink {big t : List Cond} {a0 a1 a2} (i : Nat) (h : big[i]? = some (.classLink a0 a1 a2)) (ht : GoodIn big t) : GoodIn big (.classLink a0 a1 a2 :: t) := gkp0 (fun _ q => q) i rfl h ht
theorem gkp_code {big p t : List Cond} {a0 a1 a2 a3} (hp : ∀ w ∈ p, w ∈ big) (i : Nat) (h : p[i]? = some (.code a0 a1 a2 a3)) (ht : GoodIn big t) : GoodIn big (.code a0 a1 a2 a3 :: t) := gkp0 hp i rfl h ht
theorem gk_code {big t : List Cond} {a0 a1 a2 a3} (i : Nat) (h : big[i]? = some (.code a0 a1 a2 a3)) (ht : GoodIn big t) : GoodIn big (.code a0 a1 a2 a3 :: t) := gkp0 (fun _ q => q) i rfl h ht
theorem gkp_constant {big p t : List Cond} {a0 a1 a2} (hp : ∀ w ∈ p, w ∈ big) (i : Nat) (h : p[i]? = some (.constant a0 a1 a2)) (ht : GoodIn big t) : GoodIn big (.constant a0 a1 a2 :: t) := gkp0 hp i rfl h ht
theorem gk_constant {big t : List Cond} {a0 a1 a2} (i : Nat) (h : big[i]? = some (.constant a0 a1 a2)) (ht : GoodIn big t) : GoodIn big (.constant a0 a1 a2 :: t) := gkp0 (fun _ q => q) i rfl h ht
theorem gkp_constantLong {big p t : List Cond} {a0 a1 a2} (hp : ∀ w ∈ p, w ∈ big) (i : Nat) (h : p[i]? = some (.constantLong a0 a1 a2)) (ht : GoodIn big t) : GoodIn big (.constantLong a0 a1 a2 :: t) := gkp0 hp i rfl h ht
theorem gk_constantLong {big t : List Cond} {a0 a1 a2} (i : Nat) (h : big[i]? = some (.constantLong a0 a1 a2)) (ht : GoodIn big t) : GoodIn big (.constantLong a0 a1 a2 :: t) := gkp0 (fun _ q => q) i rfl h ht
theorem gkp_fieldLink {big p t : List Cond} {a0 a1 a2 a3 a4} (hp : ∀ w ∈ p, w ∈ big) (i : Nat) (h : p[i]? = some (.fieldLink a0 a1 a2 a3 a4)) (ht : GoodIn big t) : GoodIn big (.fieldLink a0 a1 a2 a3 a4 :: t) := gkp0 hp i rfl h ht
theorem gk_fieldLink {big t : List Cond} {a0 a1 a2 a3 a4} (i : Nat) (h : big[i]? = some (.fieldLink a0 a1 a2 a3 a4)) (ht : GoodIn big t) : GoodIn big (.fieldLink a0 a1 a2 a3 a4 :: t) := gkp0 (fun _ q => q) i rfl h ht
theorem gkp_initialized {big p t : List Cond} {a0} (hp : ∀ w ∈ p, w ∈ big) (i : Nat) (h : p[i]? = some (.initialized a0)) (ht : GoodIn big t) : GoodIn big (.initialized a0 :: t) := gkp0 hp i rfl h ht
theorem gk_initialized {big t : List Cond} {a0} (i : Nat) (h : big[i]? = some (.initialized a0)) (ht : GoodIn big t) : GoodIn big (.initialized a0 :: t) := gkp0 (fun _ q => q) i rfl h ht
theorem gkp_instanceMethod {big p t : List Cond} {a0} (hp : ∀ w ∈ p, w ∈ big) (i : Nat) (h : p[i]? = some (.instanceMethod a0)) (ht : GoodIn big t) : GoodIn big (.instanceMethod a0 :: t) := gkp0 hp i rfl h ht
theorem gk_instanceMethod {big t : List Cond} {a0} (i : Nat) (h : big[i]? = some (.instanceMethod a0)) (ht : GoodIn big t) : GoodIn big (.instanceMethod a0 :: t) := gkp0 (fun _ q => q) i rfl h ht
theorem gkp_instantiable {big p t : List Cond} {a0 a1} (hp : ∀ w ∈ p, w ∈ big) (i : Nat) (h : p[i]? = some (.instantiable a0 a1)) (ht : GoodIn big t) : GoodIn big (.instantiable a0 a1 :: t) := gkp0 hp i rfl h ht
theorem gk_instantiable {big t : List Cond} {a0 a1} (i : Nat) (h : big[i]? = some (.instantiable a0 a1)) (ht : GoodIn big t) : GoodIn big (.instantiable a0 a1 :: t) := gkp0 (fun _ q => q) i rfl h ht
theorem gkp_lays {big p t : List Cond} {a0 a1 a2 a3} (hp : ∀ w ∈ p, w ∈ big) (i : Nat) (h : p[i]? = some (.lays a0 a1 a2 a3)) (ht : GoodIn big t) : GoodIn big (.lays a0 a1 a2 a3 :: t) := gkp0 hp i rfl h ht
theorem gk_lays {big t : List Cond} {a0 a1 a2 a3} (i : Nat) (h : big[i]? = some (.lays a0 a1 a2 a3)) (ht : GoodIn big t) : GoodIn big (.lays a0 a1 a2 a3 :: t) := gkp0 (fun _ q => q) i rfl h ht
theorem gkp_laysFinal {big p t : List Cond} {a0 a1 a2 a3} (hp : ∀ w ∈ p, w ∈ big) (i : Nat) (h : p[i]? = some (.laysFinal a0 a1 a2 a3)) (ht : GoodIn big t) : GoodIn big (.laysFinal a0 a1 a2 a3 :: t) := gkp0 hp i rfl h ht
theorem gk_laysFinal {big t : List Cond} {a0 a1 a2 a3} (i : Nat) (h : big[i]? = some (.laysFinal a0 a1 a2 a3)) (ht : GoodIn big t) : GoodIn big (.laysFinal a0 a1 a2 a3 :: t) := gkp0 (fun _ q => q) i rfl h ht
theorem gkp_methodLink {big p t : List Cond} {a0 a1 a2} (hp : ∀ w ∈ p, w ∈ big) (i : Nat) (h : p[i]? = some (.methodLink a0 a1 a2)) (ht : GoodIn big t) : GoodIn big (.methodLink a0 a1 a2 :: t) := gkp0 hp i rfl h ht
theorem gk_methodLink {big t : List Cond} {a0 a1 a2} (i : Nat) (h : big[i]? = some (.methodLink a0 a1 a2)) (ht : GoodIn big t) : GoodIn big (.methodLink a0 a1 a2 :: t) := gkp0 (fun _ q => q) i rfl h ht
theorem gkp_selects {big p t : List Cond} {a0 a1 a2} (hp : ∀ w ∈ p, w ∈ big) (i : Nat) (h : p[i]? = some (.selects a0 a1 a2)) (ht : GoodIn big t) : GoodIn big (.selects a0 a1 a2 :: t) := gkp0 hp i rfl h ht
theorem gk_selects {big t : List Cond} {a0 a1 a2} (i : Nat) (h : big[i]? = some (.selects a0 a1 a2)) (ht : GoodIn big t) : GoodIn big (.selects a0 a1 a2 :: t) := gkp0 (fun _ q => q) i rfl h ht
theorem gkp_soleField {big p t : List Cond} {a0 a1} (hp : ∀ w ∈ p, w ∈ big) (i : Nat) (h : p[i]? = some (.soleField a0 a1)) (ht : GoodIn big t) : GoodIn big (.soleField a0 a1 :: t) := gkp0 hp i rfl h ht
theorem gk_soleField {big t : List Cond} {a0 a1} (i : Nat) (h : big[i]? = some (.soleField a0 a1)) (ht : GoodIn big t) : GoodIn big (.soleField a0 a1 :: t) := gkp0 (fun _ q => q) i rfl h ht
theorem gkp_static {big p t : List Cond} {a0} (hp : ∀ w ∈ p, w ∈ big) (i : Nat) (h : p[i]? = some (.static a0)) (ht : GoodIn big t) : GoodIn big (.static a0 :: t) := gkp0 hp i rfl h ht
theorem gk_static {big t : List Cond} {a0} (i : Nat) (h : big[i]? = some (.static a0)) (ht : GoodIn big t) : GoodIn big (.static a0 :: t) := gkp0 (fun _ q => q) i rfl h ht
theorem gkp_superclass {big p t : List Cond} {a0 a1} (hp : ∀ w ∈ p, w ∈ big) (i : Nat) (h : p[i]? = some (.superclass a0 a1)) (ht : GoodIn big t) : GoodIn big (.superclass a0 a1 :: t) := gkp0 hp i rfl h ht
theorem gk_superclass {big t : List Cond} {a0 a1} (i : Nat) (h : big[i]? = some (.superclass a0 a1)) (ht : GoodIn big t) : GoodIn big (.superclass a0 a1 :: t) := gkp0 (fun _ q => q) i rfl h ht
theorem lt0 : ∀ w ∈ k2_sels lw_privs, w ∈ lw_tbl := fun w h => List.mem_append_left _ h
theorem lt1 : ∀ w ∈ tables_1_1, w ∈ lw_tbl := fun w h => List.mem_append_right _ (show w ∈ tables_1 from List.mem_append_left _ h)
theorem lt2 : ∀ w ∈ tables_1_2, w ∈ lw_tbl := fun w h => List.mem_append_right _ (show w ∈ tables_1 from List.mem_append_right _ (List.mem_append_left _ h))
theorem lt3 : ∀ w ∈ tables_1_3, w ∈ lw_tbl := fun w h => List.mem_append_right _ (show w ∈ tables_1 from List.mem_append_right _ (List.mem_append_right _ (List.mem_append_left _ h)))
theorem lt4 : ∀ w ∈ tables_1_4, w ∈ lw_tbl := fun w h => List.mem_append_right _ (show w ∈ tables_1 from List.mem_append_right _ (List.mem_append_right _ (List.mem_append_right _ (List.mem_append_left _ h))))
theorem lt5 : ∀ w ∈ tables_1_5, w ∈ lw_tbl := fun w h => List.mem_append_right _ (show w ∈ tables_1 from List.mem_append_right _ (List.mem_append_right _ (List.mem_append_right _ (List.mem_append_right _ (List.mem_append_left _ h)))))
theorem lt6 : ∀ w ∈ tables_1_6, w ∈ lw_tbl := fun w h => List.mem_append_right _ (show w ∈ tables_1 from List.mem_append_right _ (List.mem_append_right _ (List.mem_append_right _ (List.mem_append_right _ (List.mem_append_right _ (h))))))
