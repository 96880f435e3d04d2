/-! ===== layWays ===== -/
def sumW (W : Int → Int) : Nat → Int
  | 0 => 0
  | n + 1 => sumW W n + (W n + 24)
theorem sumW_up {W : Int → Int} {v x : Int} : ∀ n : Nat, (v < n → 0 ≤ v → sumW (upf W v x) n = sumW W n - (W v - x)) ∧ (¬ (0 ≤ v ∧ v < n) → sumW (upf W v x) n = sumW W n)
  | 0 => ⟨fun h h0 => by omega, fun _ => rfl⟩
  | n + 1 => by
    have ih := sumW_up (W := W) (v := v) (x := x) n
    refine ⟨fun h h0 => ?_, fun h => ?_⟩
    · show sumW (upf W v x) n + (upf W v x n + 24) = sumW W n + (W n + 24) - (W v - x)
      by_cases e : v = n
      · rw [ih.2 (by omega), e, upf_eq]
        omega
      · rw [ih.1 (by omega) h0, upf_ne (fun q => e q.symm)]
        omega
    · show sumW (upf W v x) n + (upf W v x n + 24) = sumW W n + (W n + 24)
      rw [ih.2 (by omega), upf_ne (by omega)]
theorem sumW_nonneg {W : Int → Int} (h : ∀ v : Int, 0 ≤ v → v < 84 → -24 ≤ W v) : ∀ n : Nat, n ≤ 84 → 0 ≤ sumW W n
  | 0, _ => Int.le_refl _
  | n + 1, hn => by
    have := sumW_nonneg h n (by omega)
    have := h n (by omega) (by omega)
    show 0 ≤ sumW W n + (W n + 24)
    omega
theorem up610 {H : PH} {i x : Int} : (pup H 610 i x) 610 = upf (H 610) i x := funext fun j => by
  unfold pup upf
  by_cases e : j = i
  · rw [if_pos ⟨rfl, e⟩, if_pos e]
  · rw [if_neg (fun q => e q.2), if_neg e]
theorem up611 {H : PH} {i x : Int} : (pup H 611 i x) 611 = upf (H 611) i x := funext fun j => by
  unfold pup upf
  by_cases e : j = i
  · rw [if_pos ⟨rfl, e⟩, if_pos e]
  · rw [if_neg (fun q => e q.2), if_neg e]
/-- one arc's two tests -/
def arcOK (far : Int) (F B W : Int → Int) (k : Int) : Prop := F k ≤ far → (W (k / 12) < 1000000 → W (72 + k % 12) ≤ W (k / 12) + F k) ∧ (0 < B k → W (72 + k % 12) < 1000000 → W (k / 12) ≤ W (72 + k % 12) - F k)
theorem pup_row {H : PH} {c i x c' : Int} (h : c' ≠ c) : pup H c i x c' = H c' := funext fun j => if_neg (fun q => h q.1)
def BF (pi : Int → Int) (H : PH) : Prop := Pot (H 591 4) (H 609) (H 608) (H 606) pi ∧ WI (H 591 4) (H 609) (H 608) (H 606) pi (H 610) (H 611)
def AK (H : PH) (q : Int) : Prop := arcOK (H 591 4) (H 609) (H 608) (H 610) q
section BFS
variable {pi : Int → Int} {H : PH} {k s b : Int}
theorem BF_bd (h : BF pi H) {v : Int} (v0 : 0 ≤ v) (v1 : v < 84) : -24 ≤ H 610 v ∧ H 610 v ≤ 1000000 := by
  have := h.1.1 v v0 v1
  have := h.2.1 v v0 v1
  omega
theorem BF_sum (h : BF pi H) : 0 ≤ sumW (H 610) 84 := sumW_nonneg (fun v v0 v1 => (BF_bd h v0 v1).1) 84 (Nat.le_refl 84)
theorem BF_f (h : BF pi H) (kk0 : 0 ≤ k) (kk1 : k < 864) (hs : s = k / 12) (hb : b = 72 + k % 12) (hF : H 609 k ≤ H 591 4) (h1 : H 610 s < 1000000) (h2 : H 610 s + H 609 k < H 610 b) : BF pi (pup (pup H 610 b (H 610 s + H 609 k)) 611 b s) := by
  have ek : 12 * s + (b - 72) = k := by omega
  have e1 : (pup (pup H 610 b (H 610 s + H 609 k)) 611 b s) 610 = upf (H 610) b (H 610 s + H 609 k) := by rw [pup_row (by decide), up610]
  have e2 : (pup (pup H 610 b (H 610 s + H 609 k)) 611 b s) 611 = upf (H 611) b s := by rw [up611, pup_row (by decide)]
  unfold BF
  rw [e1, e2, pup_row (c' := 591) (by decide), pup_row (c' := 591) (by decide), pup_row (c' := 609) (by decide), pup_row (c' := 609) (by decide), pup_row (c' := 608) (by decide), pup_row (c' := 608) (by decide), pup_row (c' := 606) (by decide), pup_row (c' := 606) (by decide)]
  refine ⟨h.1, ?_⟩
  have := WI_fwd h.1 h.2 (s := s) (b := b) (by omega) (by omega) (by omega) (by omega) (by rw [ek]; exact hF) h1 (by rw [ek]; exact h2)
  rw [ek] at this
  exact this
theorem BF_b (h : BF pi H) (kk0 : 0 ≤ k) (kk1 : k < 864) (hs : s = k / 12) (hb : b = 72 + k % 12) (hF : H 609 k ≤ H 591 4) (hB : 0 < H 608 k) (h1 : H 610 b < 1000000) (h2 : H 610 b - H 609 k < H 610 s) : BF pi (pup (pup H 610 s (H 610 b - H 609 k)) 611 s b) := by
  have ek : 12 * s + (b - 72) = k := by omega
  have e1 : (pup (pup H 610 s (H 610 b - H 609 k)) 611 s b) 610 = upf (H 610) s (H 610 b - H 609 k) := by rw [pup_row (by decide), up610]
  have e2 : (pup (pup H 610 s (H 610 b - H 609 k)) 611 s b) 611 = upf (H 611) s b := by rw [up611, pup_row (by decide)]
  unfold BF
  rw [e1, e2, pup_row (c' := 591) (by decide), pup_row (c' := 591) (by decide), pup_row (c' := 609) (by decide), pup_row (c' := 609) (by decide), pup_row (c' := 608) (by decide), pup_row (c' := 608) (by decide), pup_row (c' := 606) (by decide), pup_row (c' := 606) (by decide)]
  refine ⟨h.1, ?_⟩
  have := WI_bwd h.1 h.2 (s := s) (b := b) (by omega) (by omega) (by omega) (by omega) (by rw [ek]; exact hF) (by rw [ek]; exact hB) h1 (by rw [ek]; exact h2)
  rw [ek] at this
  exact this
theorem sumW_dn {b x y : Int} {c : Int} (b0 : 0 ≤ b) (b1 : b < 84) (hx : x < H 610 b) {S m : Int} (m0 : 0 ≤ m) (hS : sumW (H 610) 84 ≤ S - m) : sumW ((pup (pup H 610 b x) 611 c y) 610) 84 ≤ S - 1 := by
  rw [pup_row (by decide), up610]
  have := (sumW_up (W := H 610) (v := b) (x := x) 84).1 (by omega) b0
  omega
theorem arc_mk (hs : s = k / 12) (hb : b = 72 + k % 12) (h1 : H 610 s < 1000000 → H 610 b ≤ H 610 s + H 609 k) (h2 : 0 < H 608 k → H 610 b < 1000000 → H 610 s ≤ H 610 b - H 609 k) : AK H k := by
  intro _
  rw [← hs, ← hb]
  exact ⟨h1, h2⟩
theorem AK_next {m : Int} (h : m = 0 → ∀ q, 0 ≤ q → q < k → AK H q) (h' : m = 0 → AK H k) : m = 0 → ∀ q, 0 ≤ q → q < k + 1 → AK H q := by
  intro hm q q0 q1
  by_cases e : q = k
  · rw [e]
    exact h' hm
  · exact h hm q q0 (by omega)
end BFS

set_option maxRecDepth 20000 in
set_option maxHeartbeats 4000000 in
theorem sg_X12_layWays_241a {G : zG} {us : Nat} {g : Nat → Nat → Int} (H0 : PH) (pi : Int → Int)   : ∀ (ls : PL) (H : PH), pget ls 0 = some (2, 590) → pget ls 1 = some (0, 0) → WT 0 g H → frm [95, 96] H0 H → BF pi H → (∀ q, 0 ≤ q → q < 864 → AK H q) → Tr G us kd_X12_layWays 1 (zget kd_X12_layWays 241) 241 ls [] H (fun r H' => r = none ∧ WT 0 g H' ∧ frm [95, 96] H0 H' ∧ BF pi H' ∧ ∀ q, 0 ≤ q → q < 864 → AK H' q) := by
  intro ls H  l0 l1 hW hF hB hf
  refine tr_lab (D := 0) (t := 241) vb_X12_layWays_241 _ ve_X12_layWays_241 ?_
  simp (maxDischargeDepth := 12) [vb_X12_layWays_241, wB, wI, k1, kI, kR, kL, k2, pget, parg, ppush, pcat, zw_lit, zw_m1, zw_m2, zw_m3, zNC_eq, zrow, pup_app, pget_pss, pget_psx, nlg_some, nlg_none, gv_590_0, gv_590_27, gv_590_29, gv_590_30, gv_590_33, gv_590_34, tg_12_0, tg_12_27, tg_12_29, tg_12_30, tg_12_33, tg_12_34, sh_590, l0, l1]
  repeat' (with_reducible (first | (refine And.intro ?_ ?_) | intro _))
  all_goals try (refine tr_lab (D := 0) (t := 50) vb_X12_layWays_50 _ ve_X12_layWays_50 ?_; simp (maxDischargeDepth := 12) [vb_X12_layWays_50, wB, wI, k1, kI, kR, kL, k2, pget, parg, ppush, pcat, zw_lit, zw_m1, zw_m2, zw_m3, zNC_eq, zrow, pup_app, pget_pss, pget_psx, nlg_some, nlg_none, gv_590_0, gv_590_27, gv_590_29, gv_590_30, gv_590_33, gv_590_34, tg_12_0, tg_12_27, tg_12_29, tg_12_30, tg_12_33, tg_12_34, sh_590, l0, l1])
  all_goals repeat' (with_reducible (first | (refine And.intro ?_ ?_) | intro _))
  all_goals try (refine tr_lab (D := 0) (t := 244) vb_X12_layWays_244 _ ve_X12_layWays_244 ?_; simp (maxDischargeDepth := 12) [vb_X12_layWays_244, wB, wI, k1, kI, kR, kL, k2, pget, parg, ppush, pcat, zw_lit, zw_m1, zw_m2, zw_m3, zNC_eq, zrow, pup_app, pget_pss, pget_psx, nlg_some, nlg_none, gv_590_0, gv_590_27, gv_590_29, gv_590_30, gv_590_33, gv_590_34, tg_12_0, tg_12_27, tg_12_29, tg_12_30, tg_12_33, tg_12_34, sh_590, l0, l1])
  all_goals repeat' (with_reducible (first | (refine And.intro ?_ ?_) | intro _))
  all_goals (first | exact ⟨rfl, hW, hF, hB, hf⟩ | exact ⟨hW, hF, hB, hf⟩ | assumption | (exact hf _ (by assumption) (by assumption)) | skip)

set_option maxRecDepth 20000 in
set_option maxHeartbeats 4000000 in
theorem sg_X12_layWays_241b {G : zG} {us : Nat} {g : Nat → Nat → Int} (H0 : PH) (pi : Int → Int) (S : Int) (ihx : ∀ (ls : PL) (H : PH), sumW (H 610) 84 < S → pget ls 0 = some (2, 590) → pget ls 1 = some (0, 1) → WT 0 g H → frm [95, 96] H0 H → BF pi H → Tr G us kd_X12_layWays 1 (zget kd_X12_layWays 50) 50 ls [] H (fun r H' => r = none ∧ WT 0 g H' ∧ frm [95, 96] H0 H' ∧ BF pi H' ∧ ∀ q, 0 ≤ q → q < 864 → AK H' q))  : ∀ (ls : PL) (H : PH), pget ls 0 = some (2, 590) → pget ls 1 = some (0, 1) → WT 0 g H → frm [95, 96] H0 H → BF pi H → sumW (H 610) 84 < S → Tr G us kd_X12_layWays 1 (zget kd_X12_layWays 241) 241 ls [] H (fun r H' => r = none ∧ WT 0 g H' ∧ frm [95, 96] H0 H' ∧ BF pi H' ∧ ∀ q, 0 ≤ q → q < 864 → AK H' q) := by
  intro ls H  l0 l1 hW hF hB hS
  refine tr_lab (D := 0) (t := 241) vb_X12_layWays_241 _ ve_X12_layWays_241 ?_
  simp (maxDischargeDepth := 12) [vb_X12_layWays_241, wB, wI, k1, kI, kR, kL, k2, pget, parg, ppush, pcat, zw_lit, zw_m1, zw_m2, zw_m3, zNC_eq, zrow, pup_app, pget_pss, pget_psx, nlg_some, nlg_none, gv_590_0, gv_590_27, gv_590_29, gv_590_30, gv_590_33, gv_590_34, tg_12_0, tg_12_27, tg_12_29, tg_12_30, tg_12_33, tg_12_34, sh_590, l0, l1]
  repeat' (with_reducible (first | (refine And.intro ?_ ?_) | intro _))
  all_goals try ((refine ihx _ _ ?_ ?_ ?_ ?_ ?_ ?_) <;> (try simp (maxDischargeDepth := 12) [pget_pss, pget_psx, nlg_some, nlg_none, pget, pup_app, l0, l1]))
  all_goals (first | assumption | skip)

theorem sg_X12_layWays_241 {G : zG} {us : Nat} {g : Nat → Nat → Int} (H0 : PH) (pi : Int → Int)  (S : Int) (ihx : ∀ (ls : PL) (H : PH), sumW (H 610) 84 < S → pget ls 0 = some (2, 590) → pget ls 1 = some (0, 1) → WT 0 g H → frm [95, 96] H0 H → BF pi H → Tr G us kd_X12_layWays 1 (zget kd_X12_layWays 50) 50 ls [] H (fun r H' => r = none ∧ WT 0 g H' ∧ frm [95, 96] H0 H' ∧ BF pi H' ∧ ∀ q, 0 ≤ q → q < 864 → AK H' q)) (ls : PL) (m : Int) (H : PH) (l0 : pget ls 0 = some (2, 590)) (l1 : pget ls 1 = some (0, m)) (hW : WT 0 g H) (hF : frm [95, 96] H0 H) (hB : BF pi H) (m01 : m = 0 ∨ m = 1) (hS : sumW (H 610) 84 ≤ S - m) (hfx : m = 0 → ∀ q, 0 ≤ q → q < 864 → AK H q) : Tr G us kd_X12_layWays 1 (zget kd_X12_layWays 241) 241 ls [] H (fun r H' => r = none ∧ WT 0 g H' ∧ frm [95, 96] H0 H' ∧ BF pi H' ∧ ∀ q, 0 ≤ q → q < 864 → AK H' q) := by
  rcases m01 with rfl | rfl
  · exact sg_X12_layWays_241a H0 pi ls H l0 l1 hW hF hB (hfx rfl)
  · exact sg_X12_layWays_241b H0 pi S ihx ls H l0 l1 hW hF hB (by omega)
set_option maxRecDepth 20000 in
set_option maxHeartbeats 4000000 in
theorem sg_X12_layWays_235 {G : zG} {us : Nat} {g : Nat → Nat → Int} (H0 : PH) (pi : Int → Int) (S k : Int) (ihk : ∀ (ls : PL) (m : Int) (H : PH), pget ls 0 = some (2, 590) → pget ls 1 = some (0, m) → pget ls 2 = some (0, k + 1) → WT 0 g H → frm [95, 96] H0 H → BF pi H → (m = 0 ∨ m = 1) → sumW (H 610) 84 ≤ S - m → (m = 0 → ∀ q, 0 ≤ q → q < k + 1 → AK H q) → Tr G us kd_X12_layWays 1 (zget kd_X12_layWays 58) 58 ls [] H (fun r H' => r = none ∧ WT 0 g H' ∧ frm [95, 96] H0 H' ∧ BF pi H' ∧ ∀ q, 0 ≤ q → q < 864 → AK H' q)) (kk0 : 0 ≤ k) (kk1 : k < 864)  : ∀ (ls : PL) (m : Int) (H : PH), pget ls 0 = some (2, 590) → pget ls 1 = some (0, m) → pget ls 2 = some (0, k) → WT 0 g H → frm [95, 96] H0 H → BF pi H → (m = 0 ∨ m = 1) → sumW (H 610) 84 ≤ S - m → (m = 0 → ∀ q, 0 ≤ q → q < k + 1 → AK H q) → Tr G us kd_X12_layWays 1 (zget kd_X12_layWays 235) 235 ls [] H (fun r H' => r = none ∧ WT 0 g H' ∧ frm [95, 96] H0 H' ∧ BF pi H' ∧ ∀ q, 0 ≤ q → q < 864 → AK H' q) := by
  intro ls m H  l0 l1 l2 hW hF hB m01 hS hfx
  have zk : zw (k + 1) = k + 1 := zw_lit (by omega) (by omega)
  refine tr_lab (D := 0) (t := 235) vb_X12_layWays_235 _ ve_X12_layWays_235 ?_
  simp (maxDischargeDepth := 12) [vb_X12_layWays_235, wB, wI, k1, kI, kR, kL, k2, pget, parg, ppush, pcat, zw_lit, zw_m1, zw_m2, zw_m3, zNC_eq, zrow, pup_app, pget_pss, pget_psx, nlg_some, nlg_none, gv_590_0, gv_590_27, gv_590_29, gv_590_30, gv_590_33, gv_590_34, tg_12_0, tg_12_27, tg_12_29, tg_12_30, tg_12_33, tg_12_34, sh_590, zk, l0, l1, l2]
  repeat' (with_reducible (first | (refine And.intro ?_ ?_) | intro _))
  all_goals try ((refine ihk _ m _ ?_ ?_ ?_ ?_ ?_ ?_ ?_ ?_ ?_) <;> (try simp (maxDischargeDepth := 12) [pget_pss, pget_psx, nlg_some, nlg_none, pget, pup_app, l0, l1, l2]))
  all_goals (first | assumption | skip)

set_option maxRecDepth 20000 in
set_option maxHeartbeats 4000000 in
theorem sg_X12_layWays_161 {G : zG} {us : Nat} {g : Nat → Nat → Int} (H0 : PH) (pi : Int → Int) (S k : Int) (ihk : ∀ (ls : PL) (m : Int) (H : PH), pget ls 0 = some (2, 590) → pget ls 1 = some (0, m) → pget ls 2 = some (0, k + 1) → WT 0 g H → frm [95, 96] H0 H → BF pi H → (m = 0 ∨ m = 1) → sumW (H 610) 84 ≤ S - m → (m = 0 → ∀ q, 0 ≤ q → q < k + 1 → AK H q) → Tr G us kd_X12_layWays 1 (zget kd_X12_layWays 58) 58 ls [] H (fun r H' => r = none ∧ WT 0 g H' ∧ frm [95, 96] H0 H' ∧ BF pi H' ∧ ∀ q, 0 ≤ q → q < 864 → AK H' q)) (kk0 : 0 ≤ k) (kk1 : k < 864) (s b : Int) (hs : s = k / 12) (hb : b = 72 + k % 12)  : ∀ (ls : PL) (m : Int) (H : PH), pget ls 0 = some (2, 590) → pget ls 1 = some (0, m) → pget ls 2 = some (0, k) → pget ls 3 = some (0, s) → pget ls 4 = some (0, b) → H 609 k ≤ H 591 4 → WT 0 g H → frm [95, 96] H0 H → BF pi H → (m = 0 ∨ m = 1) → sumW (H 610) 84 ≤ S - m → (m = 0 → ∀ q, 0 ≤ q → q < k → AK H q) → (m = 0 → H 610 s < 1000000 → H 610 b ≤ H 610 s + H 609 k) → Tr G us kd_X12_layWays 1 (zget kd_X12_layWays 161) 161 ls [] H (fun r H' => r = none ∧ WT 0 g H' ∧ frm [95, 96] H0 H' ∧ BF pi H' ∧ ∀ q, 0 ≤ q → q < 864 → AK H' q) := by
  intro ls m H  l0 l1 l2 l3 l4 hFk hW hF hB m01 hS hfx hf1
  have hbs := BF_bd hB (v := s) (by omega) (by omega)
  have hbb := BF_bd hB (v := b) (by omega) (by omega)
  have rF := ra_609 hW kk0 kk1
  have z1 : zw (H 610 s + H 609 k) = H 610 s + H 609 k := zw_lit (by omega) (by omega)
  have z2 : zw (H 610 b - H 609 k) = H 610 b - H 609 k := zw_lit (by omega) (by omega)
  have s0 : 0 ≤ s := by omega
  have s1 : s < 72 := by omega
  have b0 : 72 ≤ b := by omega
  have b1 : b < 84 := by omega
  have hsb : ¬ s = b := by omega
  have hbs2 : ¬ b = s := by omega
  have m0 : 0 ≤ m := by omega
  refine tr_lab (D := 0) (t := 161) vb_X12_layWays_161 _ ve_X12_layWays_161 ?_
  simp (maxDischargeDepth := 12) [vb_X12_layWays_161, wB, wI, k1, kI, kR, kL, k2, pget, parg, ppush, pcat, zw_lit, zw_m1, zw_m2, zw_m3, zNC_eq, zrow, pup_app, pget_pss, pget_psx, nlg_some, nlg_none, gv_590_0, gv_590_27, gv_590_29, gv_590_30, gv_590_33, gv_590_34, tg_12_0, tg_12_27, tg_12_29, tg_12_30, tg_12_33, tg_12_34, sh_590, sh_591, sh_608, sh_609, sh_610, sh_611, z1, z2, l0, l1, l2, l3, l4]
  repeat' (with_reducible (first | (refine And.intro ?_ ?_) | intro _))
  all_goals try ((first | ((refine sg_X12_layWays_235 H0 pi S k ihk kk0 kk1 _ 1 _ ?_ pget_pss ?_ ?_ ?_ ?_ ?_ ?_ ?_) <;> (try simp (maxDischargeDepth := 12) [pget_pss, pget_psx, nlg_some, nlg_none, pget, pup_app, l0, l1, l2, l3, l4])) | ((refine sg_X12_layWays_235 H0 pi S k ihk kk0 kk1 _ m _ ?_ ?_ ?_ ?_ ?_ ?_ ?_ ?_ ?_) <;> (try simp (maxDischargeDepth := 12) [pget_pss, pget_psx, nlg_some, nlg_none, pget, pup_app, l0, l1, l2, l3, l4]))))
  all_goals (first | omega | assumption | (exact BF_f hB kk0 kk1 hs hb (by omega) (by omega) (by omega)) | (exact BF_b hB kk0 kk1 hs hb (by omega) (by omega) (by omega) (by omega)) | (exact sumW_dn (by omega) (by omega) (by omega) m0 hS) | (exact AK_next hfx (fun hm => arc_mk hs hb (hf1 hm) (fun q1 q2 => by omega))) | (intro hm; omega) | ((repeat (first | assumption | (refine wa_610 ?_ (by omega) (by omega) (by omega)) | (refine wa_611 ?_ (by omega) (by omega) (by omega)) | (refine fa_610 ?_ rfl) | (refine fa_611 ?_ rfl))); done) | skip)

set_option maxRecDepth 20000 in
set_option maxHeartbeats 4000000 in
theorem sg_X12_layWays_83 {G : zG} {us : Nat} {g : Nat → Nat → Int} (H0 : PH) (pi : Int → Int) (S k : Int) (ihk : ∀ (ls : PL) (m : Int) (H : PH), pget ls 0 = some (2, 590) → pget ls 1 = some (0, m) → pget ls 2 = some (0, k + 1) → WT 0 g H → frm [95, 96] H0 H → BF pi H → (m = 0 ∨ m = 1) → sumW (H 610) 84 ≤ S - m → (m = 0 → ∀ q, 0 ≤ q → q < k + 1 → AK H q) → Tr G us kd_X12_layWays 1 (zget kd_X12_layWays 58) 58 ls [] H (fun r H' => r = none ∧ WT 0 g H' ∧ frm [95, 96] H0 H' ∧ BF pi H' ∧ ∀ q, 0 ≤ q → q < 864 → AK H' q)) (kk0 : 0 ≤ k) (kk1 : k < 864) (s b : Int) (hs : s = k / 12) (hb : b = 72 + k % 12)  : ∀ (ls : PL) (m : Int) (H : PH), pget ls 0 = some (2, 590) → pget ls 1 = some (0, m) → pget ls 2 = some (0, k) → H 609 k ≤ H 591 4 → WT 0 g H → frm [95, 96] H0 H → BF pi H → (m = 0 ∨ m = 1) → sumW (H 610) 84 ≤ S - m → (m = 0 → ∀ q, 0 ≤ q → q < k → AK H q) → Tr G us kd_X12_layWays 1 (zget kd_X12_layWays 83) 83 ls [] H (fun r H' => r = none ∧ WT 0 g H' ∧ frm [95, 96] H0 H' ∧ BF pi H' ∧ ∀ q, 0 ≤ q → q < 864 → AK H' q) := by
  intro ls m H  l0 l1 l2 hFk hW hF hB m01 hS hfx
  have hbs := BF_bd hB (v := s) (by omega) (by omega)
  have hbb := BF_bd hB (v := b) (by omega) (by omega)
  have rF := ra_609 hW kk0 kk1
  have z1 : zw (H 610 s + H 609 k) = H 610 s + H 609 k := zw_lit (by omega) (by omega)
  have z2 : zw (H 610 b - H 609 k) = H 610 b - H 609 k := zw_lit (by omega) (by omega)
  have s0 : 0 ≤ s := by omega
  have s1 : s < 72 := by omega
  have b0 : 72 ≤ b := by omega
  have b1 : b < 84 := by omega
  have hsb : ¬ s = b := by omega
  have hbs2 : ¬ b = s := by omega
  have m0 : 0 ≤ m := by omega
  have zd : q2 (· / ·) k 12 = s := by rw [q2_div (by omega) (by omega) (by omega) (by omega)]; exact hs.symm
  have zr : q2 (fun x y => x - x / y * y) k 12 = b - 72 := by rw [q2_rem (by omega) (by omega) (by omega) (by omega)]; omega
  have z72 : zw (72 + (b - 72)) = b := by rw [zw_lit (by omega) (by omega)]; omega
  refine tr_lab (D := 0) (t := 83) vb_X12_layWays_83 _ ve_X12_layWays_83 ?_
  simp (maxDischargeDepth := 12) [vb_X12_layWays_83, wB, wI, k1, kI, kR, kL, k2, pget, parg, ppush, pcat, zw_lit, zw_m1, zw_m2, zw_m3, zNC_eq, zrow, pup_app, pget_pss, pget_psx, nlg_some, nlg_none, gv_590_0, gv_590_27, gv_590_29, gv_590_30, gv_590_33, gv_590_34, tg_12_0, tg_12_27, tg_12_29, tg_12_30, tg_12_33, tg_12_34, sh_590, sh_591, sh_608, sh_609, sh_610, sh_611, z1, z2, zd, zr, z72, l0, l1, l2]
  repeat' (with_reducible (first | (refine And.intro ?_ ?_) | intro _))
  all_goals try ((first | ((refine sg_X12_layWays_161 H0 pi S k ihk kk0 kk1 s b hs hb _ 1 _ ?_ pget_pss ?_ ?_ ?_ ?_ ?_ ?_ ?_ ?_ ?_ ?_ ?_) <;> (try simp (maxDischargeDepth := 12) [pget_pss, pget_psx, nlg_some, nlg_none, pget, pup_app, l0, l1, l2, hsb, hbs2])) | ((refine sg_X12_layWays_161 H0 pi S k ihk kk0 kk1 s b hs hb _ m _ ?_ ?_ ?_ ?_ ?_ ?_ ?_ ?_ ?_ ?_ ?_ ?_ ?_) <;> (try simp (maxDischargeDepth := 12) [pget_pss, pget_psx, nlg_some, nlg_none, pget, pup_app, l0, l1, l2, hsb, hbs2]))))
  all_goals (first | omega | assumption | (exact BF_f hB kk0 kk1 hs hb (by omega) (by omega) (by omega)) | (exact BF_b hB kk0 kk1 hs hb (by omega) (by omega) (by omega) (by omega)) | (exact sumW_dn (by omega) (by omega) (by omega) m0 hS) | (exact AK_next hfx (fun hm => arc_mk hs hb (hf1 hm) (fun q1 q2 => by omega))) | (intro hm; omega) | (intro hm h1; omega) | ((repeat (first | assumption | (refine wa_610 ?_ (by omega) (by omega) (by omega)) | (refine wa_611 ?_ (by omega) (by omega) (by omega)) | (refine fa_610 ?_ rfl) | (refine fa_611 ?_ rfl))); done) | skip)

set_option maxRecDepth 20000 in
set_option maxHeartbeats 4000000 in
theorem lp_X12_layWays_58 {G : zG} {us : Nat} {g : Nat → Nat → Int} (H0 : PH) (pi : Int → Int) (S : Int) (ihx : ∀ (ls : PL) (H : PH), sumW (H 610) 84 < S → pget ls 0 = some (2, 590) → pget ls 1 = some (0, 1) → WT 0 g H → frm [95, 96] H0 H → BF pi H → Tr G us kd_X12_layWays 1 (zget kd_X12_layWays 50) 50 ls [] H (fun r H' => r = none ∧ WT 0 g H' ∧ frm [95, 96] H0 H' ∧ BF pi H' ∧ ∀ q, 0 ≤ q → q < 864 → AK H' q))   : ∀ (n : Nat) (ls : PL) (H : PH) (m : Int) (k : Int), (864 - k).toNat < n → pget ls 0 = some (2, 590) → pget ls 1 = some (0, m) → pget ls 2 = some (0, k) → WT 0 g H → frm [95, 96] H0 H → BF pi H → 0 ≤ k → k ≤ 864 → (m = 0 ∨ m = 1) → sumW (H 610) 84 ≤ S - m → (m = 0 → ∀ q, 0 ≤ q → q < k → AK H q) → Tr G us kd_X12_layWays 1 (zget kd_X12_layWays 58) 58 ls [] H (fun r H' => r = none ∧ WT 0 g H' ∧ frm [95, 96] H0 H' ∧ BF pi H' ∧ ∀ q, 0 ≤ q → q < 864 → AK H' q) := by
  intro n
  induction n with
  | zero => intros; omega
  | succ n ih =>
    intro ls H m k hn  l0 l1 l2 hW hF hB kk0 kk1 m01 hS hfx
    refine tr_lab (D := 0) (t := 58) vb_X12_layWays_58 _ ve_X12_layWays_58 ?_
    simp (maxDischargeDepth := 12) [vb_X12_layWays_58, wB, wI, k1, kI, kR, kL, k2, pget, parg, ppush, pcat, zw_lit, zw_m1, zw_m2, zw_m3, zNC_eq, zrow, pup_app, pget_pss, pget_psx, nlg_some, nlg_none, gv_590_0, gv_590_27, gv_590_29, gv_590_30, gv_590_33, gv_590_34, tg_12_0, tg_12_27, tg_12_29, tg_12_30, tg_12_33, tg_12_34, sh_590, sh_591, sh_608, sh_609, sh_610, sh_611, l0, l1, l2]
    repeat' (with_reducible (first | (refine And.intro ?_ ?_) | intro _))
    all_goals try ((refine sg_X12_layWays_235 H0 pi S k (fun ls m H a0 a1 a2 a3 a4 a5 a6 a7 a8 => ih ls H m (k + 1) (by omega) a0 a1 a2 a3 a4 a5 (by omega) (by omega) a6 a7 a8) kk0 (by omega) _ m _ ?_ ?_ ?_ ?_ ?_ ?_ ?_ ?_ ?_) <;> (try simp (maxDischargeDepth := 12) [pget_pss, pget_psx, nlg_some, nlg_none, pget, pup_app, l0, l1, l2]))
    all_goals try ((refine sg_X12_layWays_83 H0 pi S k (fun ls m H a0 a1 a2 a3 a4 a5 a6 a7 a8 => ih ls H m (k + 1) (by omega) a0 a1 a2 a3 a4 a5 (by omega) (by omega) a6 a7 a8) kk0 (by omega) (k / 12) (72 + k % 12) rfl rfl _ m _ ?_ ?_ ?_ ?_ ?_ ?_ ?_ ?_ ?_ ?_) <;> (try simp (maxDischargeDepth := 12) [pget_pss, pget_psx, nlg_some, nlg_none, pget, pup_app, l0, l1, l2]))
    all_goals try ((refine sg_X12_layWays_241 H0 pi S ihx _ m _ ?_ ?_ ?_ ?_ ?_ ?_ ?_ ?_) <;> (try simp (maxDischargeDepth := 12) [pget_pss, pget_psx, nlg_some, nlg_none, pget, pup_app, l0, l1, l2]))
    all_goals try (refine ih _ _ _ _ ?_ ?_ ?_ ?_ ?_ ?_ ?_ ?_ ?_ ?_ ?_ ?_)
    all_goals try simp (maxDischargeDepth := 12) [pget_pss, pget_psx, nlg_some, nlg_none, pget, pup_app, l0, l1, l2]
    all_goals (first | omega | assumption | (exact AK_next hfx (fun _ hq => absurd hq (by omega))) | (rw [show (864 : Int) = k by omega]; exact hfx) | skip)

set_option maxRecDepth 20000 in
set_option maxHeartbeats 4000000 in
theorem sg_X12_layWays_50 {G : zG} {us : Nat} {g : Nat → Nat → Int} (H0 : PH) (pi : Int → Int) (H : PH) (ihx : ∀ (ls : PL) (H1 : PH), sumW (H1 610) 84 < sumW (H 610) 84 → pget ls 0 = some (2, 590) → pget ls 1 = some (0, 1) → WT 0 g H1 → frm [95, 96] H0 H1 → BF pi H1 → Tr G us kd_X12_layWays 1 (zget kd_X12_layWays 50) 50 ls [] H1 (fun r H' => r = none ∧ WT 0 g H' ∧ frm [95, 96] H0 H' ∧ BF pi H' ∧ ∀ q, 0 ≤ q → q < 864 → AK H' q))  : ∀ (ls : PL) , pget ls 0 = some (2, 590) → pget ls 1 = some (0, 1) → WT 0 g H → frm [95, 96] H0 H → BF pi H → Tr G us kd_X12_layWays 1 (zget kd_X12_layWays 50) 50 ls [] H (fun r H' => r = none ∧ WT 0 g H' ∧ frm [95, 96] H0 H' ∧ BF pi H' ∧ ∀ q, 0 ≤ q → q < 864 → AK H' q) := by
  intro ls   l0 l1 hW hF hB
  refine tr_lab (D := 0) (t := 50) vb_X12_layWays_50 _ ve_X12_layWays_50 ?_
  simp (maxDischargeDepth := 12) [vb_X12_layWays_50, wB, wI, k1, kI, kR, kL, k2, pget, parg, ppush, pcat, zw_lit, zw_m1, zw_m2, zw_m3, zNC_eq, zrow, pup_app, pget_pss, pget_psx, nlg_some, nlg_none, gv_590_0, gv_590_27, gv_590_29, gv_590_30, gv_590_33, gv_590_34, tg_12_0, tg_12_27, tg_12_29, tg_12_30, tg_12_33, tg_12_34, sh_590, l0, l1]
  repeat' (with_reducible (first | (refine And.intro ?_ ?_) | intro _))
  all_goals try ((refine lp_X12_layWays_58 H0 pi (sumW (H 610) 84) ihx 865 _ _ 0 0 ?_ ?_ ?_ ?_ ?_ ?_ ?_ ?_ ?_ ?_ ?_ ?_) <;> (try simp (maxDischargeDepth := 12) [pget_pss, pget_psx, nlg_some, nlg_none, pget, pup_app, l0, l1]))
  all_goals (first | omega | assumption | (intro _ q q0 q1; omega) | skip)

theorem ways_50 {G : zG} {us : Nat} {g : Nat → Nat → Int} (H0 : PH) (pi : Int → Int) : ∀ (n : Nat) (ls : PL) (H : PH), sumW (H 610) 84 < n → pget ls 0 = some (2, 590) → pget ls 1 = some (0, 1) → WT 0 g H → frm [95, 96] H0 H → BF pi H → Tr G us kd_X12_layWays 1 (zget kd_X12_layWays 50) 50 ls [] H (fun r H' => r = none ∧ WT 0 g H' ∧ frm [95, 96] H0 H' ∧ BF pi H' ∧ ∀ q, 0 ≤ q → q < 864 → AK H' q) := by
  intro n
  induction n with
  | zero =>
    intro ls H hn l0 l1 hW hF hB
    exact (Int.lt_irrefl 0 (Int.lt_of_le_of_lt (BF_sum hB) hn)).elim
  | succ n ih =>
    intro ls H hn l0 l1 hW hF hB
    exact sg_X12_layWays_50 H0 pi H (fun ls H1 h => ih ls H1 (Int.lt_of_lt_of_le h (Int.le_of_lt_add_one hn))) ls l0 l1 hW hF hB
def wst (h W P : Int → Int) (u : Int) : Prop := P u = -1 ∧ ((u < 72 ∧ 0 < h u ∧ W u = 0) ∨ (¬ (u < 72 ∧ 0 < h u) ∧ W u = 1000000))
theorem wst_WI {far : Int} {F B h pi W P : Int → Int} (hp : Pot far F B h pi) (hs : ∀ u, 0 ≤ u → u < 84 → wst h W P u) : WI far F B h pi W P := by
  refine ⟨fun v v0 v1 => ?_, fun v v0 v1 hv => ?_, fun v v0 v1 hv => ?_, fun v v0 v1 hv => absurd (hs v (by omega) v1).1 hv, fun v v0 v1 hv => absurd (hs v v0 (by omega)).1 hv, fun v v0 v1 => ⟨1, ?_⟩⟩
  · have h1 := hp.1 v v0 v1
    obtain ⟨_, ⟨a, b, c⟩ | ⟨a, c⟩⟩ := hs v v0 v1
    · have := hp.2.2.1 v v0 a b
      omega
    · omega
  · obtain ⟨_, ⟨a, b, c⟩ | ⟨a, c⟩⟩ := hs v v0 (by omega)
    · omega
    · exact absurd ⟨v1, hv⟩ a
  · obtain ⟨_, ⟨a, b, c⟩ | ⟨a, c⟩⟩ := hs v v0 v1
    · exact Or.inr ⟨a, b⟩
    · exact Or.inl c
  · show nxt P v = -1
    unfold nxt
    split
    · rfl
    · exact (hs v v0 v1).1
theorem wst_next {H : PH} {v x : Int} (h : ∀ u, 0 ≤ u → u < v → wst (H 606) (H 610) (H 611) u) (hx : (v < 72 ∧ 0 < H 606 v ∧ x = 0) ∨ (¬ (v < 72 ∧ 0 < H 606 v) ∧ x = 1000000)) : ∀ u, 0 ≤ u → u < v + 1 → wst ((pup (pup H 610 v x) 611 v (-1)) 606) ((pup (pup H 610 v x) 611 v (-1)) 610) ((pup (pup H 610 v x) 611 v (-1)) 611) u := by
  intro u u0 u1
  rw [up611, pup_row (c' := 606) (by decide), pup_row (c' := 606) (by decide), pup_row (c' := 610) (by decide), up610, pup_row (c' := 611) (by decide)]
  by_cases e : u = v
  · rw [e]
    unfold wst
    rw [upf_eq, upf_eq]
    exact ⟨rfl, hx⟩
  · have := h u u0 (by omega)
    unfold wst at this ⊢
    rw [upf_ne e, upf_ne e]
    exact this
def PotH (pi : Int → Int) (H : PH) : Prop := Pot (H 591 4) (H 609) (H 608) (H 606) pi
theorem PotH_up {pi : Int → Int} {H : PH} {v x y : Int} (h : PotH pi H) : PotH pi (pup (pup H 610 v x) 611 v y) := by
  unfold PotH
  rw [pup_row (c' := 591) (by decide), pup_row (c' := 591) (by decide), pup_row (c' := 609) (by decide), pup_row (c' := 609) (by decide), pup_row (c' := 608) (by decide), pup_row (c' := 608) (by decide), pup_row (c' := 606) (by decide), pup_row (c' := 606) (by decide)]
  exact h
set_option maxRecDepth 20000 in
set_option maxHeartbeats 4000000 in
theorem lp_X12_layWays_2 {G : zG} {us : Nat} {g : Nat → Nat → Int} (H0 : PH) (pi : Int → Int)    : ∀ (n : Nat) (ls : PL) (H : PH) (v : Int), (84 - v).toNat < n → pget ls 0 = some (2, 590) → pget ls 1 = some (0, v) → WT 0 g H → frm [95, 96] H0 H → PotH pi H → 0 ≤ v → v ≤ 84 → (∀ u, 0 ≤ u → u < v → wst (H 606) (H 610) (H 611) u) → Tr G us kd_X12_layWays 1 (zget kd_X12_layWays 2) 2 ls [] H (fun r H' => r = none ∧ WT 0 g H' ∧ frm [95, 96] H0 H' ∧ BF pi H' ∧ ∀ q, 0 ≤ q → q < 864 → AK H' q) := by
  intro n
  induction n with
  | zero => intros; omega
  | succ n ih =>
    intro ls H v hn  l0 l1 hW hF hp v0 v1 hst
    have zv : v < 84 → zw (v + 1) = v + 1 := fun _ => zw_lit (by omega) (by omega)
    refine tr_lab (D := 0) (t := 2) vb_X12_layWays_2 _ ve_X12_layWays_2 ?_
    simp (maxDischargeDepth := 12) [vb_X12_layWays_2, wB, wI, k1, kI, kR, kL, k2, pget, parg, ppush, pcat, zw_lit, zw_m1, zw_m2, zw_m3, zNC_eq, zrow, pup_app, pget_pss, pget_psx, nlg_some, nlg_none, gv_590_0, gv_590_27, gv_590_29, gv_590_30, gv_590_33, gv_590_34, tg_12_0, tg_12_27, tg_12_29, tg_12_30, tg_12_33, tg_12_34, sh_590, sh_606, sh_610, sh_611, zv, l0, l1]
    repeat' (with_reducible (first | (refine And.intro ?_ ?_) | intro _))
    all_goals try (refine tr_lab (D := 0) (t := 32) vb_X12_layWays_32 _ ve_X12_layWays_32 ?_; simp (maxDischargeDepth := 12) [vb_X12_layWays_32, wB, wI, k1, kI, kR, kL, k2, pget, parg, ppush, pcat, zw_lit, zw_m1, zw_m2, zw_m3, zNC_eq, zrow, pup_app, pget_pss, pget_psx, nlg_some, nlg_none, gv_590_0, gv_590_27, gv_590_29, gv_590_30, gv_590_33, gv_590_34, tg_12_0, tg_12_27, tg_12_29, tg_12_30, tg_12_33, tg_12_34, sh_590, sh_606, sh_610, sh_611, zv, l0, l1])
    all_goals repeat' (with_reducible (first | (refine And.intro ?_ ?_) | intro _))
    all_goals try (refine tr_lab (D := 0) (t := 34) vb_X12_layWays_34 _ ve_X12_layWays_34 ?_; simp (maxDischargeDepth := 12) [vb_X12_layWays_34, wB, wI, k1, kI, kR, kL, k2, pget, parg, ppush, pcat, zw_lit, zw_m1, zw_m2, zw_m3, zNC_eq, zrow, pup_app, pget_pss, pget_psx, nlg_some, nlg_none, gv_590_0, gv_590_27, gv_590_29, gv_590_30, gv_590_33, gv_590_34, tg_12_0, tg_12_27, tg_12_29, tg_12_30, tg_12_33, tg_12_34, sh_590, sh_606, sh_610, sh_611, zv, l0, l1])
    all_goals repeat' (with_reducible (first | (refine And.intro ?_ ?_) | intro _))
    all_goals try (refine tr_lab (D := 0) (t := 48) vb_X12_layWays_48 _ ve_X12_layWays_48 ?_; simp (maxDischargeDepth := 12) [vb_X12_layWays_48, wB, wI, k1, kI, kR, kL, k2, pget, parg, ppush, pcat, zw_lit, zw_m1, zw_m2, zw_m3, zNC_eq, zrow, pup_app, pget_pss, pget_psx, nlg_some, nlg_none, gv_590_0, gv_590_27, gv_590_29, gv_590_30, gv_590_33, gv_590_34, tg_12_0, tg_12_27, tg_12_29, tg_12_30, tg_12_33, tg_12_34, sh_590, sh_606, sh_610, sh_611, zv, l0, l1])
    all_goals repeat' (with_reducible (first | (refine And.intro ?_ ?_) | intro _))
    all_goals try ((refine ways_50 H0 pi ((sumW (H 610) 84).toNat + 1) _ _ ?_ ?_ ?_ ?_ ?_ ?_) <;> (try simp (maxDischargeDepth := 12) [pget_pss, pget_psx, nlg_some, nlg_none, pget, pup_app, l0, l1]))
    all_goals try (refine ih _ _ (v + 1) ?_ ?_ ?_ ?_ ?_ ?_ ?_ ?_ ?_)
    all_goals try simp (maxDischargeDepth := 12) [pget_pss, pget_psx, nlg_some, nlg_none, pget, pup_app, l0, l1]
    all_goals (first | omega | assumption | ((repeat (first | assumption | (refine wa_610 ?_ (by omega) (by omega) (by omega)) | (refine wa_611 ?_ (by omega) (by omega) (by omega)) | (refine fa_610 ?_ rfl) | (refine fa_611 ?_ rfl) | (refine PotH_up ?_))); done) | (exact ⟨hp, wst_WI hp (fun u u0 u1 => hst u u0 (by omega))⟩) | (exact wst_next hst (Or.inl ⟨by omega, by omega, rfl⟩)) | (exact wst_next hst (Or.inr ⟨by omega, rfl⟩)) | skip)

set_option maxRecDepth 20000 in
set_option maxHeartbeats 4000000 in
theorem ca_X12_layWays {G : zG} {us : Nat} {g : Nat → Nat → Int} (pi : Int → Int) (H : PH) (hW : WT 0 g H) (hp : PotH pi H) : Ca G us 1 222 [(2, 590)] H (fun r H' => r = none ∧ WT 0 g H' ∧ frm [95, 96] H H' ∧ BF pi H' ∧ ∀ q, 0 ≤ q → q < 864 → AK H' q) := by
  refine ⟨_, _, _, _, _, _, vm_X12_layWays, by simp [pcat], ?_⟩
  refine tr_lab (D := 0) (t := 0) vb_X12_layWays_0 _ ve_X12_layWays_0 ?_
  simp (maxDischargeDepth := 12) [vb_X12_layWays_0, wB, wI, k1, kI, kR, kL, k2, pget, parg, ppush, pcat, zw_lit, zw_m1, zw_m2, zw_m3, zNC_eq, zrow, pup_app, pget_pss, pget_psx, nlg_some, nlg_none, gv_590_0, gv_590_27, gv_590_29, gv_590_30, gv_590_33, gv_590_34, tg_12_0, tg_12_27, tg_12_29, tg_12_30, tg_12_33, tg_12_34, sh_590]
  repeat' (with_reducible (first | (refine And.intro ?_ ?_) | intro _))
  all_goals try ((refine lp_X12_layWays_2 H pi 85 _ _ 0 ?_ ?_ ?_ ?_ ?_ ?_ ?_ ?_ ?_) <;> (try simp (maxDischargeDepth := 12) [pget_pss, pget_psx, nlg_some, nlg_none, pget, pup_app]))
  all_goals (first | omega | assumption | exact frm_refl _ _ | (intro u u0 u1; omega) | skip)

