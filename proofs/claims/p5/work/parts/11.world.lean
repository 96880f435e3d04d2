/-! ===== cells and worlds ===== -/
def zX (cid : Nat → ClassId) (ρ : Nat → Int32) (b : Nat) (as : List Nat) (c : zC) (e : va_E) : Prop :=
  c.2.1 < 2 ^ 31 ∧
  ((∃ (r : vw_C) (fs : List Value), vwCl[c.1]? = some r ∧ r.2.2 = c.2.1 ∧ e = .inr (c.1, fs) ∧ fs.length = c.2.1 ∧ (∃ d, zfull d 0 c.2.2.2 ∧ c.2.1 ≤ 2 ^ d) ∧ ∀ (j : Nat) (v : Value), fs[j]? = some v → zg ρ b as (zget c.2.2.2 j) v) ∨
   ((16 ≤ c.1 ∧ c.1 ≤ 18) ∧ ∃ f : Nat → Int32, e = .inl (cid c.1, c.2.1, .inl f) ∧ ∀ j : Nat, j < c.2.1 → zgI ρ (zde (zdg c.2.2.1 j)) (f j)) ∨
   ((19 ≤ c.1 ∧ c.1 ≤ 22) ∧ ∃ f : Nat → Option Nat, e = .inl (cid c.1, c.2.1, .inr (.inr (.inr (.inr f)))) ∧ (∃ d, zfull d 0 c.2.2.2 ∧ c.2.1 ≤ 2 ^ d) ∧ ∀ j : Nat, j < c.2.1 → zg ρ b as (zget c.2.2.2 j) (va_rf (f j))))
def zWd (cid : Nat → ClassId) (ρ : Nat → Int32) (b sz : Nat) (h : zH) (ws : va_W) : Prop :=
  ws.length = sz ∧ zfull zdep 0 h ∧ sz ≤ 1024 ∧ ∀ (i q : Nat) (e : va_E), ws[i]? = some (q, e) → zX cid ρ b (ws.map Prod.fst) (zget h i) e
theorem vwCl_lt {k : Nat} {r : vw_C} (h : vwCl[k]? = some r) : k < 13 := (List.getElem?_eq_some_iff.mp h).1
section ZWS
variable {cid : Nat → ClassId} {ρ : Nat → Int32} {b : Nat} {as : List Nat}
theorem zX_mono {c : zC} {e : va_E} (xs : List Nat) (h : zX cid ρ b as c e) : zX cid ρ b (as ++ xs) c e := by
  obtain ⟨h1, h3⟩ := h
  refine ⟨h1, ?_⟩
  rcases h3 with ⟨r, fs, a1, a2, a3, a4, a6, a5⟩ | ⟨a1, f, a2, a3⟩ | ⟨a1, f, a2, a6, a3⟩
  · exact Or.inl ⟨r, fs, a1, a2, a3, a4, a6, fun j v q => zg_mono xs (a5 j v q)⟩
  · exact Or.inr (Or.inl ⟨a1, f, a2, a3⟩)
  · exact Or.inr (Or.inr ⟨a1, f, a2, a6, fun j q => zg_mono xs (a3 j q)⟩)
theorem zX_obj {c : zC} {e : va_E} (h : zX cid ρ b as c e) (hk : c.1 < 13) : ∃ (r : vw_C) (fs : List Value), vwCl[c.1]? = some r ∧ r.2.2 = c.2.1 ∧ e = .inr (c.1, fs) ∧ fs.length = c.2.1 ∧ (∃ d, zfull d 0 c.2.2.2 ∧ c.2.1 ≤ 2 ^ d) ∧ ∀ (j : Nat) (v : Value), fs[j]? = some v → zg ρ b as (zget c.2.2.2 j) v := by
  rcases h.2 with h | ⟨h, -⟩ | ⟨h, -⟩
  · exact h
  · omega
  · omega
theorem zX_int {c : zC} {e : va_E} (h : zX cid ρ b as c e) (hk : 16 ≤ c.1 ∧ c.1 ≤ 18) : ∃ f : Nat → Int32, e = .inl (cid c.1, c.2.1, .inl f) ∧ ∀ j : Nat, j < c.2.1 → zgI ρ (zde (zdg c.2.2.1 j)) (f j) := by
  rcases h.2 with ⟨r, fs, h, -⟩ | ⟨-, h⟩ | ⟨h, -⟩
  · have := vwCl_lt h
    omega
  · exact h
  · omega
theorem zX_ref {c : zC} {e : va_E} (h : zX cid ρ b as c e) (hk : 19 ≤ c.1) : c.1 ≤ 22 ∧ ∃ f : Nat → Option Nat, e = .inl (cid c.1, c.2.1, .inr (.inr (.inr (.inr f)))) ∧ (∃ d, zfull d 0 c.2.2.2 ∧ c.2.1 ≤ 2 ^ d) ∧ ∀ j : Nat, j < c.2.1 → zg ρ b as (zget c.2.2.2 j) (va_rf (f j)) := by
  rcases h.2 with ⟨r, fs, h, -⟩ | ⟨h, -⟩ | ⟨h1, h⟩
  · have := vwCl_lt h
    omega
  · omega
  · exact ⟨h1.2, h⟩
/-- a row written in -/
theorem zX_row {k n N : Nat} {t : zT zV} {f : Nat → Int32} {v : Nat} {x : Int32} {u : Nat} (h : zX cid ρ b as (k, n, N, t) (.inl (cid k, n, .inl f))) (hk : 16 ≤ k ∧ k ≤ 18) (hv : v < 2 ^ 48) (hx : zgI ρ (zde v) x) : zX cid ρ b as (k, n, zsd N u v, t) (.inl (cid k, n, .inl (upd f u x))) := by
  obtain ⟨f', e', h'⟩ := zX_int h hk
  cases e'
  refine ⟨h.1, Or.inr (Or.inl ⟨hk, _, rfl, fun j hj => ?_⟩)⟩
  show zgI ρ (zde (zdg (zsd N u v) j)) (upd f u x j)
  rw [zdg_zsd _ _ _ _ hv]
  by_cases e : j = u
  · rw [if_pos e, show upd f u x j = x by simp [upd, e]]
    exact hx
  · rw [if_neg e, show upd f u x j = f j by simp [upd, e]]
    exact h' j hj
theorem zX_refs {k n N : Nat} {t : zT zV} {f : Nat → Option Nat} {v : zV} {q : Nat} {u : Nat} (h : zX cid ρ b as (k, n, N, t) (.inl (cid k, n, .inr (.inr (.inr (.inr f)))))) (hk : 19 ≤ k) (hu : u < n) (hv : zg ρ b as v (.ref q)) : zX cid ρ b as (k, n, N, zput t v u) (.inl (cid k, n, .inr (.inr (.inr (.inr (va_up f u (some q))))))) := by
  obtain ⟨hk2, f', e', ⟨d, h2, h3⟩, h'⟩ := zX_ref h hk
  cases e'
  have h3 : n ≤ 2 ^ d := h3
  refine ⟨h.1, Or.inr (Or.inr ⟨⟨hk, hk2⟩, _, rfl, ⟨d, zput_full _ _ _ _ _ h2, h3⟩, fun j hj => ?_⟩)⟩
  have hj : j < n := hj
  show zg ρ b as (zget (zput t v u) j) (va_rf (va_up f u (some q) j))
  rw [zget_zput v u j d 0 t h2 (Nat.zero_le _) (by omega) (Nat.zero_le _) (by omega)]
  by_cases e : j = u
  · rw [if_pos e, show va_up f u (some q) j = some q by simp [va_up, e]]
    exact hv
  · rw [if_neg e, show va_up f u (some q) j = f j by simp [va_up, e]]
    exact h' j hj
theorem zX_fld {k n N : Nat} {t : zT zV} {fs : List Value} {v : zV} {x : Value} {u : Nat} (h : zX cid ρ b as (k, n, N, t) (.inr (k, fs))) (hk : k < 13) (hu : u < n) (hv : zg ρ b as v x) : zX cid ρ b as (k, n, N, zput t v u) (.inr (k, fs.set u x)) := by
  obtain ⟨r, fs', a1, a2, a3, a4, ⟨d, h2, h3⟩, a5⟩ := zX_obj h hk
  cases a3
  have h3 : n ≤ 2 ^ d := h3
  have a4 : fs.length = n := a4
  refine ⟨h.1, Or.inl ⟨r, _, a1, a2, rfl, by rw [List.length_set]; exact a4, ⟨d, zput_full _ _ _ _ _ h2, h3⟩, fun j w hj => ?_⟩⟩
  have hj' : j < n := by
    have := (List.getElem?_eq_some_iff.mp hj).1
    rw [List.length_set] at this
    exact Nat.lt_of_lt_of_eq this a4
  show zg ρ b as (zget (zput t v u) j) w
  rw [zget_zput v u j d 0 t h2 (Nat.zero_le _) (by omega) (Nat.zero_le _) (by omega)]
  by_cases e : j = u
  · rw [if_pos e]
    subst e
    rw [List.getElem?_set_self (Nat.lt_of_lt_of_eq hu a4.symm)] at hj
    cases hj
    exact hv
  · rw [if_neg e]
    rw [List.getElem?_set_ne (fun q => e q.symm)] at hj
    exact a5 j w hj
/-- a fresh row of a kind -/
theorem zX_newI {k n : Nat} {t : zT zV} (hk : 16 ≤ k ∧ k ≤ 18) (hn : n < 2 ^ 31) : zX cid ρ b as (k, n, 0, t) (.inl (cid k, n, .inl (fun _ => 0))) := by
  refine ⟨hn, Or.inr (Or.inl ⟨hk, _, rfl, fun j _ => ?_⟩)⟩
  show zgI ρ (zde (zdg 0 j)) 0
  rw [zdg_zero]
  exact zI_0.symm
theorem zX_newR {k n N : Nat} (hk : 19 ≤ k ∧ k ≤ 22) (hn : n < 2 ^ 31) : zX cid ρ b as (k, n, N, zrep (zr 0) (Nat.succ (Nat.log2 n)) 0) (.inl (cid k, n, .inr (.inr (.inr (.inr (fun _ => none)))))) := by
  refine ⟨hn, Or.inr (Or.inr ⟨hk, _, rfl, ⟨_, zrep_full _ _ _, Nat.le_of_lt Nat.lt_log2_self⟩, fun j _ => ?_⟩)⟩
  show zg ρ b as (zget (zrep (zr 0) _ _) j) _
  rw [zget_zrep]
  rfl
variable {sz : Nat} {h : zH} {ws : va_W}
theorem zWd_at (hw : zWd cid ρ b sz h ws) {i : Nat} (hi : i < sz) : ∃ (q : Nat) (e : va_E), ws[i]? = some (q, e) ∧ (ws.map Prod.fst)[i]? = some q ∧ zX cid ρ b (ws.map Prod.fst) (zget h i) e := by
  obtain ⟨h1, h2, h3, h4⟩ := hw
  have hl : i < ws.length := by omega
  have e : ws[i]? = some ws[i] := List.getElem?_eq_getElem hl
  refine ⟨ws[i].1, ws[i].2, e, by rw [List.getElem?_map, e]; rfl, h4 i _ _ e⟩
theorem zWd_map {i q : Nat} {e e' : va_E} (he : ws[i]? = some (q, e)) : (ws.set i (q, e')).map Prod.fst = ws.map Prod.fst := by
  apply List.ext_getElem?
  intro j
  rw [List.getElem?_map, List.getElem?_map]
  by_cases hj : j = i
  · subst hj
    rw [List.getElem?_set_self (List.getElem?_eq_some_iff.mp he).1, he]
    rfl
  · rw [List.getElem?_set_ne (fun q => hj q.symm)]
theorem zWd_set (hw : zWd cid ρ b sz h ws) {i q : Nat} {e e' : va_E} {c : zC} (he : ws[i]? = some (q, e)) (hx : zX cid ρ b (ws.map Prod.fst) c e') : zWd cid ρ b sz (zput h c i) (ws.set i (q, e')) := by
  obtain ⟨h1, h2, h3, h4⟩ := hw
  have hi : i < ws.length := (List.getElem?_eq_some_iff.mp he).1
  refine ⟨by rw [List.length_set]; exact h1, zput_full _ _ _ _ _ h2, h3, fun j p e2 hj => ?_⟩
  rw [zWd_map he]
  have hjl : j < ws.length := by
    have := (List.getElem?_eq_some_iff.mp hj).1
    rwa [List.length_set] at this
  rw [zget_zput c i j zdep 0 h h2 (Nat.zero_le _) (show i < 0 + 1024 by omega) (Nat.zero_le _) (show j < 0 + 1024 by omega)]
  by_cases hji : j = i
  · rw [if_pos hji]
    subst hji
    rw [List.getElem?_set_self hi] at hj
    cases hj
    exact hx
  · rw [if_neg hji]
    rw [List.getElem?_set_ne (fun q => hji q.symm)] at hj
    exact h4 j p e2 hj
theorem zWd_push (hw : zWd cid ρ b sz h ws) (hs : sz < 1024) {q : Nat} {e : va_E} {c : zC} (hx : zX cid ρ b (ws.map Prod.fst ++ [q]) c e) : zWd cid ρ b (sz + 1) (zput h c sz) (ws ++ [(q, e)]) := by
  obtain ⟨h1, h2, h3, h4⟩ := hw
  have hm : (ws ++ [(q, e)]).map Prod.fst = ws.map Prod.fst ++ [q] := by simp
  refine ⟨by simp [h1], zput_full _ _ _ _ _ h2, hs, fun j p e2 hj => ?_⟩
  rw [hm]
  have hjl : j < sz + 1 := by
    have := (List.getElem?_eq_some_iff.mp hj).1
    simp [h1] at this
    omega
  rw [zget_zput c sz j zdep 0 h h2 (Nat.zero_le _) (show sz < 0 + 1024 by omega) (Nat.zero_le _) (show j < 0 + 1024 by omega)]
  by_cases hji : j = sz
  · rw [if_pos hji]
    rw [List.getElem?_append_right (by omega), show j - ws.length = 0 by omega] at hj
    cases hj
    exact hx
  · rw [if_neg hji]
    rw [List.getElem?_append_left (by omega)] at hj
    exact zX_mono _ (h4 j p e2 hj)
end ZWS
/-! ===== what is known of the tables at a state ===== -/
def zws : List Cond := lw_tbl.filter goodWord
theorem zws_mem {w : Cond} (h : w ∈ lw_tbl) (hg : goodWord w = true) : w ∈ zws := List.mem_filter.mpr ⟨h, hg⟩
def ztys (cid : Nat → ClassId) : List (ClassId × FieldType) := [(cid 16, .int), (cid 17, .byte), (cid 18, .boolean), (cid 19, .array .int), (cid 20, .object RX0), (cid 21, .object RX5), (cid 22, .object RX2)]
def zKU (D : va_G) (cid : Nat → ClassId) (b L : Nat) (xs : Nat → Int32) (U : State) : Prop :=
  va_K D vwCl (ztys cid) U ∧ (∀ (own : String) (i : Nat) (y : MethodName) (host : String), Cond.methodLinkNest own i y host ∈ lw_tbl → va_Nw (.methodLinkNest own i y host) U) ∧
  (∀ C : String, Cond.arrayOver (.object C) ∈ lw_tbl → va_AO C U) ∧ (∀ t : FieldType, Cond.arrayOver (.array t) ∈ lw_tbl → (Cond.arrayOver (.array t)).before #[] U = true) ∧ va_X b L xs U U.heap
theorem zAOA_moved {t : FieldType} {u U : State} (hvm : u.vm.Alike U.vm) (h : (Cond.arrayOver (.array t)).before #[] u = true) : (Cond.arrayOver (.array t)).before #[] U = true := by
  obtain ⟨comp, c, k, h1, h2, h3, h4, h5⟩ := arrayOverA_spec h
  obtain ⟨k', hk', he⟩ := hvm.2.2 _ _ h3
  have hba : U.vm.bare = u.vm.bare := by first | exact hvm.bare_eq | exact hvm.bare_eq.symm
  have hi : (U.vm.classes.findIdx? fun (x : Class) => match x.kind with | .array component _ => component == comp | _ => false) = some c := by
    refine (va_idx_bare U.vm comp).symm.trans ?_
    rw [hba]
    exact (va_idx_bare u.vm comp).trans h2
  have hkind : k'.kind = .array comp (.array t) := by rw [he]; exact h4
  have f1 : U.vm.findClass (FieldType.array t).toString = some comp := by rw [hvm.findClass]; exact h1
  have f2 : U.vm.findClass ("[" ++ (FieldType.array t).toString) = some c := by rw [hvm.findClass]; exact h5
  unfold Cond.before Cond.holds
  simp only [Cond.value]
  rw [f1, Option.bind_some]
  refine (congrArg (fun o : Option Nat => (o.bind (fun c => (U.vm.classes[c]?).map fun (k : Class) => match k.kind with | .array _ ty => decide (ty = FieldType.array t) && decide (U.vm.findClass ("[" ++ (FieldType.array t).toString) = some c) | _ => false) == some true)) hi).trans ?_
  simp [hk', hkind, f2]
theorem zKU_moved {D : va_G} {cid : Nat → ClassId} {b L : Nat} {xs : Nat → Int32} {s U : State} (hW : s.WarmedH U.vm) (hb : U.heap[b]? = s.heap[b]?) (h : zKU D cid b L xs s) : zKU D cid b L xs U := by
  obtain ⟨h1, h2, h3, h4, scr, g1, g2, g3⟩ := h
  exact ⟨h1.moved hW.alike, fun own i y host hm => va_Nw.warmM hW (h2 own i y host hm), fun C hm => va_AO.moved hW.alike (h3 C hm), fun t hm => zAOA_moved hW.alike (h4 t hm), scr, by rw [hb]; exact g1, State.isArrayOf_alike hW.alike g2, g3⟩
