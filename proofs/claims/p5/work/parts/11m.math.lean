/-! ===== Math.max, min, abs: by the kit's rows ===== -/
noncomputable def so_mmax (G : zG) (pc npc a1 a2 : Nat) (ls : zLs) (st : List zV) (sz : Nat) (h : zH) : zO := z2 st (fun a b r => zwhen (Nat.ble (zcat r) (nat_lit 8)) (zbr (zcmp .lt a b) (zgo npc ls (b :: r) h) (zgo npc ls (a :: r) h)))
noncomputable def so_mmin (G : zG) (pc npc a1 a2 : Nat) (ls : zLs) (st : List zV) (sz : Nat) (h : zH) : zO := z2 st (fun a b r => zwhen (Nat.ble (zcat r) (nat_lit 8)) (zbr (zcmp .lt b a) (zgo npc ls (b :: r) h) (zgo npc ls (a :: r) h)))
noncomputable def so_mabs (G : zG) (pc npc a1 a2 : Nat) (ls : zLs) (st : List zV) (sz : Nat) (h : zH) : zO := z1 st (fun a r => zwhen (Nat.ble (zcat r) (nat_lit 8)) (zbr (zcmp .ge a (zi 0)) (zgo npc ls (a :: r) h) (zsub (zi 0) a (fun v => zgo npc ls (v :: r) h))))
noncomputable def yo_mmax (G : zG) (pc npc a1 a2 : Nat) (ls : zLs) (st : List zV) (sz : Nat) (h : zH) (nx : zLs → List zV → zH → zR) (jp : Nat → zLs → List zV → zH → zR) (ot : zO → zR) : zR := ot (so_mmax G pc npc a1 a2 ls st sz h)
noncomputable def yo_mmin (G : zG) (pc npc a1 a2 : Nat) (ls : zLs) (st : List zV) (sz : Nat) (h : zH) (nx : zLs → List zV → zH → zR) (jp : Nat → zLs → List zV → zH → zR) (ot : zO → zR) : zR := ot (so_mmin G pc npc a1 a2 ls st sz h)
noncomputable def yo_mabs (G : zG) (pc npc a1 a2 : Nat) (ls : zLs) (st : List zV) (sz : Nat) (h : zH) (nx : zLs → List zV → zH → zR) (jp : Nat → zLs → List zV → zH → zR) (ot : zO → zR) : zR := ot (so_mabs G pc npc a1 a2 ls st sz h)
noncomputable def zmf (k : Nat) : zFn := match k with
  | 0 => so_mmax
  | 1 => so_mmin
  | _ => so_mabs
noncomputable def zmc (k : Nat) : zCn := match k with
  | 0 => yo_mmax
  | 1 => yo_mmin
  | _ => yo_mabs
noncomputable def zencM (pc k : Nat) : zQ := fun K => K pc (zmc k) (pc + 3) 0 0
def zmtX (oc : Nat) : List ((Nat × Nat) × Nat) := match oc with
  | 0 => [((38, 0), 913), ((44, 1), 1025)]
  | 1 => [((164, 1), 745), ((200, 0), 1132), ((220, 2), 1048)]
  | 3 => [((103, 1), 984)]
  | 4 => [((72, 1), 842), ((87, 0), 846)]
  | 6 => [((91, 0), 914), ((118, 1), 925)]
  | 7 => [((104, 2), 1166), ((123, 1), 1176)]
  | 8 => [((55, 0), 754), ((61, 1), 757)]
  | 9 => [((100, 1), 855)]
  | 10 => [((37, 1), 705)]
  | 11 => [((320, 1), 762), ((386, 0), 1119)]
  | _ => []
def zmt (oc : Nat) : List (Nat × Nat) := (zmtX oc).map Prod.fst
