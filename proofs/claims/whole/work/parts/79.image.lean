/-! pure facts: an image kept and restored by the reference -/
/-- what the slots of an image hold -/
def s_V (v : Nat → Int32) (y mo g wi s r wr cs fr te as ho nu gx gy gp gw : Nat → Int32) (x : Nat) : Int32 := if x < 8 then v x else if x < 428 then (match (x - 8) % 7 with | 0 => y | 1 => mo | 2 => g | 3 => wi | 4 => s | 5 => r | _ => wr) ((x - 8) / 7) else if x < 432 then cs (x - 428) else if x < 492 then fr (x - 432) else if x < 716 then (match (x - 492) % 4 with | 0 => te | 1 => as | 2 => ho | _ => nu) ((x - 492) / 4) else (match (x - 716) % 4 with | 0 => gx | 1 => gy | 2 => gp | _ => gw) ((x - 716) / 4)
section SV
variable {v : Nat → Int32} {y mo g wi s r wr cs fr te as ho nu gx gy gp gw : Nat → Int32}
theorem s_V_v {x : Nat} (h : x < 8) : s_V v y mo g wi s r wr cs fr te as ho nu gx gy gp gw x = v x := if_pos h
theorem s_V_y {j : Nat} (h : j < 60) : s_V v y mo g wi s r wr cs fr te as ho nu gx gy gp gw (8 + 7 * j + 0) = y j := by
  unfold s_V
  rw [if_neg (show ¬ 8 + 7 * j + 0 < 8 by omega), if_pos (show 8 + 7 * j + 0 < 428 by omega), show (8 + 7 * j + 0 - 8) % 7 = 0 by omega, show (8 + 7 * j + 0 - 8) / 7 = j by omega]
  rfl
theorem s_V_mo {j : Nat} (h : j < 60) : s_V v y mo g wi s r wr cs fr te as ho nu gx gy gp gw (8 + 7 * j + 1) = mo j := by
  unfold s_V
  rw [if_neg (show ¬ 8 + 7 * j + 1 < 8 by omega), if_pos (show 8 + 7 * j + 1 < 428 by omega), show (8 + 7 * j + 1 - 8) % 7 = 1 by omega, show (8 + 7 * j + 1 - 8) / 7 = j by omega]
  rfl
theorem s_V_g {j : Nat} (h : j < 60) : s_V v y mo g wi s r wr cs fr te as ho nu gx gy gp gw (8 + 7 * j + 2) = g j := by
  unfold s_V
  rw [if_neg (show ¬ 8 + 7 * j + 2 < 8 by omega), if_pos (show 8 + 7 * j + 2 < 428 by omega), show (8 + 7 * j + 2 - 8) % 7 = 2 by omega, show (8 + 7 * j + 2 - 8) / 7 = j by omega]
  rfl
theorem s_V_wi {j : Nat} (h : j < 60) : s_V v y mo g wi s r wr cs fr te as ho nu gx gy gp gw (8 + 7 * j + 3) = wi j := by
  unfold s_V
  rw [if_neg (show ¬ 8 + 7 * j + 3 < 8 by omega), if_pos (show 8 + 7 * j + 3 < 428 by omega), show (8 + 7 * j + 3 - 8) % 7 = 3 by omega, show (8 + 7 * j + 3 - 8) / 7 = j by omega]
  rfl
theorem s_V_s {j : Nat} (h : j < 60) : s_V v y mo g wi s r wr cs fr te as ho nu gx gy gp gw (8 + 7 * j + 4) = s j := by
  unfold s_V
  rw [if_neg (show ¬ 8 + 7 * j + 4 < 8 by omega), if_pos (show 8 + 7 * j + 4 < 428 by omega), show (8 + 7 * j + 4 - 8) % 7 = 4 by omega, show (8 + 7 * j + 4 - 8) / 7 = j by omega]
  rfl
theorem s_V_r {j : Nat} (h : j < 60) : s_V v y mo g wi s r wr cs fr te as ho nu gx gy gp gw (8 + 7 * j + 5) = r j := by
  unfold s_V
  rw [if_neg (show ¬ 8 + 7 * j + 5 < 8 by omega), if_pos (show 8 + 7 * j + 5 < 428 by omega), show (8 + 7 * j + 5 - 8) % 7 = 5 by omega, show (8 + 7 * j + 5 - 8) / 7 = j by omega]
  rfl
theorem s_V_wr {j : Nat} (h : j < 60) : s_V v y mo g wi s r wr cs fr te as ho nu gx gy gp gw (8 + 7 * j + 6) = wr j := by
  unfold s_V
  rw [if_neg (show ¬ 8 + 7 * j + 6 < 8 by omega), if_pos (show 8 + 7 * j + 6 < 428 by omega), show (8 + 7 * j + 6 - 8) % 7 = 6 by omega, show (8 + 7 * j + 6 - 8) / 7 = j by omega]
  rfl
theorem s_V_cs {j : Nat} (h : j < 4) : s_V v y mo g wi s r wr cs fr te as ho nu gx gy gp gw (428 + 1 * j + 0) = cs j := by
  unfold s_V
  rw [if_neg (show ¬ 428 + 1 * j + 0 < 8 by omega), if_neg (show ¬ 428 + 1 * j + 0 < 428 by omega), if_pos (show 428 + 1 * j + 0 < 432 by omega), show 428 + 1 * j + 0 - 428 = j by omega]
theorem s_V_fr {j : Nat} (h : j < 60) : s_V v y mo g wi s r wr cs fr te as ho nu gx gy gp gw (432 + 1 * j + 0) = fr j := by
  unfold s_V
  rw [if_neg (show ¬ 432 + 1 * j + 0 < 8 by omega), if_neg (show ¬ 432 + 1 * j + 0 < 428 by omega), if_neg (show ¬ 432 + 1 * j + 0 < 432 by omega), if_pos (show 432 + 1 * j + 0 < 492 by omega), show 432 + 1 * j + 0 - 432 = j by omega]
theorem s_V_te {j : Nat} (h : j < 56) : s_V v y mo g wi s r wr cs fr te as ho nu gx gy gp gw (492 + 4 * j + 0) = te j := by
  unfold s_V
  rw [if_neg (show ¬ 492 + 4 * j + 0 < 8 by omega), if_neg (show ¬ 492 + 4 * j + 0 < 428 by omega), if_neg (show ¬ 492 + 4 * j + 0 < 432 by omega), if_neg (show ¬ 492 + 4 * j + 0 < 492 by omega), if_pos (show 492 + 4 * j + 0 < 716 by omega), show (492 + 4 * j + 0 - 492) % 4 = 0 by omega, show (492 + 4 * j + 0 - 492) / 4 = j by omega]
  rfl
theorem s_V_as {j : Nat} (h : j < 56) : s_V v y mo g wi s r wr cs fr te as ho nu gx gy gp gw (492 + 4 * j + 1) = as j := by
  unfold s_V
  rw [if_neg (show ¬ 492 + 4 * j + 1 < 8 by omega), if_neg (show ¬ 492 + 4 * j + 1 < 428 by omega), if_neg (show ¬ 492 + 4 * j + 1 < 432 by omega), if_neg (show ¬ 492 + 4 * j + 1 < 492 by omega), if_pos (show 492 + 4 * j + 1 < 716 by omega), show (492 + 4 * j + 1 - 492) % 4 = 1 by omega, show (492 + 4 * j + 1 - 492) / 4 = j by omega]
  rfl
theorem s_V_ho {j : Nat} (h : j < 56) : s_V v y mo g wi s r wr cs fr te as ho nu gx gy gp gw (492 + 4 * j + 2) = ho j := by
  unfold s_V
  rw [if_neg (show ¬ 492 + 4 * j + 2 < 8 by omega), if_neg (show ¬ 492 + 4 * j + 2 < 428 by omega), if_neg (show ¬ 492 + 4 * j + 2 < 432 by omega), if_neg (show ¬ 492 + 4 * j + 2 < 492 by omega), if_pos (show 492 + 4 * j + 2 < 716 by omega), show (492 + 4 * j + 2 - 492) % 4 = 2 by omega, show (492 + 4 * j + 2 - 492) / 4 = j by omega]
  rfl
theorem s_V_nu {j : Nat} (h : j < 56) : s_V v y mo g wi s r wr cs fr te as ho nu gx gy gp gw (492 + 4 * j + 3) = nu j := by
  unfold s_V
  rw [if_neg (show ¬ 492 + 4 * j + 3 < 8 by omega), if_neg (show ¬ 492 + 4 * j + 3 < 428 by omega), if_neg (show ¬ 492 + 4 * j + 3 < 432 by omega), if_neg (show ¬ 492 + 4 * j + 3 < 492 by omega), if_pos (show 492 + 4 * j + 3 < 716 by omega), show (492 + 4 * j + 3 - 492) % 4 = 3 by omega, show (492 + 4 * j + 3 - 492) / 4 = j by omega]
  rfl
theorem s_V_gx {j : Nat} (h : j < 4) : s_V v y mo g wi s r wr cs fr te as ho nu gx gy gp gw (716 + 4 * j + 0) = gx j := by
  unfold s_V
  rw [if_neg (show ¬ 716 + 4 * j + 0 < 8 by omega), if_neg (show ¬ 716 + 4 * j + 0 < 428 by omega), if_neg (show ¬ 716 + 4 * j + 0 < 432 by omega), if_neg (show ¬ 716 + 4 * j + 0 < 492 by omega), if_neg (show ¬ 716 + 4 * j + 0 < 716 by omega), show (716 + 4 * j + 0 - 716) % 4 = 0 by omega, show (716 + 4 * j + 0 - 716) / 4 = j by omega]
  rfl
theorem s_V_gy {j : Nat} (h : j < 4) : s_V v y mo g wi s r wr cs fr te as ho nu gx gy gp gw (716 + 4 * j + 1) = gy j := by
  unfold s_V
  rw [if_neg (show ¬ 716 + 4 * j + 1 < 8 by omega), if_neg (show ¬ 716 + 4 * j + 1 < 428 by omega), if_neg (show ¬ 716 + 4 * j + 1 < 432 by omega), if_neg (show ¬ 716 + 4 * j + 1 < 492 by omega), if_neg (show ¬ 716 + 4 * j + 1 < 716 by omega), show (716 + 4 * j + 1 - 716) % 4 = 1 by omega, show (716 + 4 * j + 1 - 716) / 4 = j by omega]
  rfl
theorem s_V_gp {j : Nat} (h : j < 4) : s_V v y mo g wi s r wr cs fr te as ho nu gx gy gp gw (716 + 4 * j + 2) = gp j := by
  unfold s_V
  rw [if_neg (show ¬ 716 + 4 * j + 2 < 8 by omega), if_neg (show ¬ 716 + 4 * j + 2 < 428 by omega), if_neg (show ¬ 716 + 4 * j + 2 < 432 by omega), if_neg (show ¬ 716 + 4 * j + 2 < 492 by omega), if_neg (show ¬ 716 + 4 * j + 2 < 716 by omega), show (716 + 4 * j + 2 - 716) % 4 = 2 by omega, show (716 + 4 * j + 2 - 716) / 4 = j by omega]
  rfl
theorem s_V_gw {j : Nat} (h : j < 4) : s_V v y mo g wi s r wr cs fr te as ho nu gx gy gp gw (716 + 4 * j + 3) = gw j := by
  unfold s_V
  rw [if_neg (show ¬ 716 + 4 * j + 3 < 8 by omega), if_neg (show ¬ 716 + 4 * j + 3 < 428 by omega), if_neg (show ¬ 716 + 4 * j + 3 < 432 by omega), if_neg (show ¬ 716 + 4 * j + 3 < 492 by omega), if_neg (show ¬ 716 + 4 * j + 3 < 716 by omega), show (716 + 4 * j + 3 - 716) % 4 = 3 by omega, show (716 + 4 * j + 3 - 716) / 4 = j by omega]
  rfl
theorem s_GV_y : s_G (s_V v y mo g wi s r wr cs fr te as ho nu gx gy gp gw) y 8 7 0 60 = y := by
  funext j
  unfold s_G
  by_cases h : j < 60
  · rw [if_pos h, s_V_y h]
  · rw [if_neg h]
theorem s_GV_mo : s_G (s_V v y mo g wi s r wr cs fr te as ho nu gx gy gp gw) mo 8 7 1 60 = mo := by
  funext j
  unfold s_G
  by_cases h : j < 60
  · rw [if_pos h, s_V_mo h]
  · rw [if_neg h]
theorem s_GV_g : s_G (s_V v y mo g wi s r wr cs fr te as ho nu gx gy gp gw) g 8 7 2 60 = g := by
  funext j
  unfold s_G
  by_cases h : j < 60
  · rw [if_pos h, s_V_g h]
  · rw [if_neg h]
theorem s_GV_wi : s_G (s_V v y mo g wi s r wr cs fr te as ho nu gx gy gp gw) wi 8 7 3 60 = wi := by
  funext j
  unfold s_G
  by_cases h : j < 60
  · rw [if_pos h, s_V_wi h]
  · rw [if_neg h]
theorem s_GV_s : s_G (s_V v y mo g wi s r wr cs fr te as ho nu gx gy gp gw) s 8 7 4 60 = s := by
  funext j
  unfold s_G
  by_cases h : j < 60
  · rw [if_pos h, s_V_s h]
  · rw [if_neg h]
theorem s_GV_r : s_G (s_V v y mo g wi s r wr cs fr te as ho nu gx gy gp gw) r 8 7 5 60 = r := by
  funext j
  unfold s_G
  by_cases h : j < 60
  · rw [if_pos h, s_V_r h]
  · rw [if_neg h]
theorem s_GV_wr : s_G (s_V v y mo g wi s r wr cs fr te as ho nu gx gy gp gw) wr 8 7 6 60 = wr := by
  funext j
  unfold s_G
  by_cases h : j < 60
  · rw [if_pos h, s_V_wr h]
  · rw [if_neg h]
theorem s_GV_cs : s_G (s_V v y mo g wi s r wr cs fr te as ho nu gx gy gp gw) cs 428 1 0 4 = cs := by
  funext j
  unfold s_G
  by_cases h : j < 4
  · rw [if_pos h, s_V_cs h]
  · rw [if_neg h]
theorem s_GV_fr : s_G (s_V v y mo g wi s r wr cs fr te as ho nu gx gy gp gw) fr 432 1 0 60 = fr := by
  funext j
  unfold s_G
  by_cases h : j < 60
  · rw [if_pos h, s_V_fr h]
  · rw [if_neg h]
theorem s_GV_te : s_G (s_V v y mo g wi s r wr cs fr te as ho nu gx gy gp gw) te 492 4 0 56 = te := by
  funext j
  unfold s_G
  by_cases h : j < 56
  · rw [if_pos h, s_V_te h]
  · rw [if_neg h]
theorem s_GV_as : s_G (s_V v y mo g wi s r wr cs fr te as ho nu gx gy gp gw) as 492 4 1 56 = as := by
  funext j
  unfold s_G
  by_cases h : j < 56
  · rw [if_pos h, s_V_as h]
  · rw [if_neg h]
theorem s_GV_ho : s_G (s_V v y mo g wi s r wr cs fr te as ho nu gx gy gp gw) ho 492 4 2 56 = ho := by
  funext j
  unfold s_G
  by_cases h : j < 56
  · rw [if_pos h, s_V_ho h]
  · rw [if_neg h]
theorem s_GV_nu : s_G (s_V v y mo g wi s r wr cs fr te as ho nu gx gy gp gw) nu 492 4 3 56 = nu := by
  funext j
  unfold s_G
  by_cases h : j < 56
  · rw [if_pos h, s_V_nu h]
  · rw [if_neg h]
theorem s_GV_gx : s_G (s_V v y mo g wi s r wr cs fr te as ho nu gx gy gp gw) gx 716 4 0 4 = gx := by
  funext j
  unfold s_G
  by_cases h : j < 4
  · rw [if_pos h, s_V_gx h]
  · rw [if_neg h]
theorem s_GV_gy : s_G (s_V v y mo g wi s r wr cs fr te as ho nu gx gy gp gw) gy 716 4 1 4 = gy := by
  funext j
  unfold s_G
  by_cases h : j < 4
  · rw [if_pos h, s_V_gy h]
  · rw [if_neg h]
theorem s_GV_gp : s_G (s_V v y mo g wi s r wr cs fr te as ho nu gx gy gp gw) gp 716 4 2 4 = gp := by
  funext j
  unfold s_G
  by_cases h : j < 4
  · rw [if_pos h, s_V_gp h]
  · rw [if_neg h]
theorem s_GV_gw : s_G (s_V v y mo g wi s r wr cs fr te as ho nu gx gy gp gw) gw 716 4 3 4 = gw := by
  funext j
  unfold s_G
  by_cases h : j < 4
  · rw [if_pos h, s_V_gw h]
  · rw [if_neg h]
theorem s_GR_y (x : Nat → Int32) {j : Nat} (h : j < 60) : s_G (s_V v y mo g wi s r wr cs fr te as ho nu gx gy gp gw) x 8 7 0 60 j = y j := by
  unfold s_G
  rw [if_pos h, s_V_y h]
theorem s_GR_mo (x : Nat → Int32) {j : Nat} (h : j < 60) : s_G (s_V v y mo g wi s r wr cs fr te as ho nu gx gy gp gw) x 8 7 1 60 j = mo j := by
  unfold s_G
  rw [if_pos h, s_V_mo h]
theorem s_GR_g (x : Nat → Int32) {j : Nat} (h : j < 60) : s_G (s_V v y mo g wi s r wr cs fr te as ho nu gx gy gp gw) x 8 7 2 60 j = g j := by
  unfold s_G
  rw [if_pos h, s_V_g h]
theorem s_GR_wi (x : Nat → Int32) {j : Nat} (h : j < 60) : s_G (s_V v y mo g wi s r wr cs fr te as ho nu gx gy gp gw) x 8 7 3 60 j = wi j := by
  unfold s_G
  rw [if_pos h, s_V_wi h]
theorem s_GR_s (x : Nat → Int32) {j : Nat} (h : j < 60) : s_G (s_V v y mo g wi s r wr cs fr te as ho nu gx gy gp gw) x 8 7 4 60 j = s j := by
  unfold s_G
  rw [if_pos h, s_V_s h]
theorem s_GR_r (x : Nat → Int32) {j : Nat} (h : j < 60) : s_G (s_V v y mo g wi s r wr cs fr te as ho nu gx gy gp gw) x 8 7 5 60 j = r j := by
  unfold s_G
  rw [if_pos h, s_V_r h]
theorem s_GR_wr (x : Nat → Int32) {j : Nat} (h : j < 60) : s_G (s_V v y mo g wi s r wr cs fr te as ho nu gx gy gp gw) x 8 7 6 60 j = wr j := by
  unfold s_G
  rw [if_pos h, s_V_wr h]
theorem s_GR_cs (x : Nat → Int32) {j : Nat} (h : j < 4) : s_G (s_V v y mo g wi s r wr cs fr te as ho nu gx gy gp gw) x 428 1 0 4 j = cs j := by
  unfold s_G
  rw [if_pos h, s_V_cs h]
theorem s_GR_fr (x : Nat → Int32) {j : Nat} (h : j < 60) : s_G (s_V v y mo g wi s r wr cs fr te as ho nu gx gy gp gw) x 432 1 0 60 j = fr j := by
  unfold s_G
  rw [if_pos h, s_V_fr h]
theorem s_GR_te (x : Nat → Int32) {j : Nat} (h : j < 56) : s_G (s_V v y mo g wi s r wr cs fr te as ho nu gx gy gp gw) x 492 4 0 56 j = te j := by
  unfold s_G
  rw [if_pos h, s_V_te h]
theorem s_GR_as (x : Nat → Int32) {j : Nat} (h : j < 56) : s_G (s_V v y mo g wi s r wr cs fr te as ho nu gx gy gp gw) x 492 4 1 56 j = as j := by
  unfold s_G
  rw [if_pos h, s_V_as h]
theorem s_GR_ho (x : Nat → Int32) {j : Nat} (h : j < 56) : s_G (s_V v y mo g wi s r wr cs fr te as ho nu gx gy gp gw) x 492 4 2 56 j = ho j := by
  unfold s_G
  rw [if_pos h, s_V_ho h]
theorem s_GR_nu (x : Nat → Int32) {j : Nat} (h : j < 56) : s_G (s_V v y mo g wi s r wr cs fr te as ho nu gx gy gp gw) x 492 4 3 56 j = nu j := by
  unfold s_G
  rw [if_pos h, s_V_nu h]
theorem s_GR_gx (x : Nat → Int32) {j : Nat} (h : j < 4) : s_G (s_V v y mo g wi s r wr cs fr te as ho nu gx gy gp gw) x 716 4 0 4 j = gx j := by
  unfold s_G
  rw [if_pos h, s_V_gx h]
theorem s_GR_gy (x : Nat → Int32) {j : Nat} (h : j < 4) : s_G (s_V v y mo g wi s r wr cs fr te as ho nu gx gy gp gw) x 716 4 1 4 j = gy j := by
  unfold s_G
  rw [if_pos h, s_V_gy h]
theorem s_GR_gp (x : Nat → Int32) {j : Nat} (h : j < 4) : s_G (s_V v y mo g wi s r wr cs fr te as ho nu gx gy gp gw) x 716 4 2 4 j = gp j := by
  unfold s_G
  rw [if_pos h, s_V_gp h]
theorem s_GR_gw (x : Nat → Int32) {j : Nat} (h : j < 4) : s_G (s_V v y mo g wi s r wr cs fr te as ho nu gx gy gp gw) x 716 4 3 4 j = gw j := by
  unfold s_G
  rw [if_pos h, s_V_gw h]
end SV
/-- the keep at B holds an image -/
def s_kp (B : Nat) (kp V : Nat → Int32) : Prop := ∀ x, x < 732 → kp (B + x) = V x
theorem s_kp_new (B : Nat) (V kp : Nat → Int32) : s_kp B (s_K B V kp 732) V := fun x hx => by
  unfold s_K
  rw [if_pos (by omega), show B + x - B = x by omega]
theorem s_kp_old {B C : Nat} {V V' kp : Nat → Int32} (h : s_kp C kp V') (hBC : B + 732 ≤ C ∨ C + 732 ≤ B) : s_kp C (s_K B V kp 732) V' := fun x hx => by
  unfold s_K
  rw [if_neg (by omega)]
  exact h x hx
theorem s_K_same {B : Nat} {V kp : Nat → Int32} (h : s_kp B kp V) : s_K B V kp 732 = kp := by
  funext z
  unfold s_K
  by_cases q : B ≤ z ∧ z < B + 732
  · rw [if_pos q, ← h (z - B) (by omega), show B + (z - B) = z by omega]
  · rw [if_neg q]
theorem m_image (ik kp : Nat → Int32) (mi ne st da ke we ca gl ka iw : Int32) (y mo g wi s r wr cs fr te as ho nu gx gy gp gw : Nat → Int32) {k : Nat} (hk : k < 2) : mX10_image mi ne st da ke we ca gl ka iw y mo g wi s r wr cs fr te as ho nu gx gy gp gw kp ik (nI k) = some (1, mi, ne, st, da, ke, we, ca, gl, nI (800 * k + 732), 1, y, mo, g, wi, s, r, wr, cs, fr, te, as, ho, nu, gx, gy, gp, gw, s_K (800 * k) (s_V (fun x => if x = 0 then mi else if x = 1 then ne else if x = 2 then st else if x = 3 then da else if x = 4 then ke else if x = 5 then we else if x = 6 then ca else gl) y mo g wi s r wr cs fr te as ho nu gx gy gp gw) kp 732, upd ik k (vp_nar .boolean 1)) := by
  have m800 : (800 : Int32) * nI k = nI (800 * k) := pk_mul 800 k
  have xk : x_in (nI k) 2 := n_xin hk (by omega)
  have ck : (nI k).toNatClampNeg = k := nI_clamp (by omega)
  have hin : 0 ≤ nI k ∧ nI k ≤ 1 := ⟨nI_pos' (by omega), nI_le (b := 1) (by omega) (by omega)⟩
  have e := m_passAll (B := 800 * k) (w := 1) (V := (s_V (fun x => if x = 0 then mi else if x = 1 then ne else if x = 2 then st else if x = 3 then da else if x = 4 then ke else if x = 5 then we else if x = 6 then ca else gl) y mo g wi s r wr cs fr te as ho nu gx gy gp gw)) (kp := kp) (mi := mi) (ne := ne) (st := st) (da := da) (ke := ke) (we := we) (ca := ca) (gl := gl) (y := y) (mo := mo) (g := g) (wi := wi) (s := s) (r := r) (wr := wr) (cs := cs) (fr := fr) (te := te) (as := as) (ho := ho) (nu := nu) (gx := gx) (gy := gy) (gp := gp) (gw := gw) (by omega) (.inl ⟨rfl, rfl⟩) (.inl ⟨rfl, rfl⟩) (.inl ⟨rfl, rfl⟩) (.inl ⟨rfl, rfl⟩) (.inl ⟨rfl, rfl⟩) (.inl ⟨rfl, rfl⟩) (.inl ⟨rfl, rfl⟩) (.inl ⟨rfl, rfl⟩) (fun j hj => .inl ⟨rfl, (s_V_y hj).symm⟩) (fun j hj => .inl ⟨rfl, (s_V_mo hj).symm⟩) (fun j hj => .inl ⟨rfl, (s_V_g hj).symm⟩) (fun j hj => .inl ⟨rfl, (s_V_wi hj).symm⟩) (fun j hj => .inl ⟨rfl, (s_V_s hj).symm⟩) (fun j hj => .inl ⟨rfl, (s_V_r hj).symm⟩) (fun j hj => .inl ⟨rfl, (s_V_wr hj).symm⟩) (fun j hj => .inl ⟨rfl, (s_V_cs hj).symm⟩) (fun j hj => .inl ⟨rfl, (s_V_fr hj).symm⟩) (fun j hj => .inl ⟨rfl, (s_V_te hj).symm⟩) (fun j hj => .inl ⟨rfl, (s_V_as hj).symm⟩) (fun j hj => .inl ⟨rfl, (s_V_ho hj).symm⟩) (fun j hj => .inl ⟨rfl, (s_V_nu hj).symm⟩) (fun j hj => .inl ⟨rfl, (s_V_gx hj).symm⟩) (fun j hj => .inl ⟨rfl, (s_V_gy hj).symm⟩) (fun j hj => .inl ⟨rfl, (s_V_gp hj).symm⟩) (fun j hj => .inl ⟨rfl, (s_V_gw hj).symm⟩)
  rw [s_GV_y, s_GV_mo, s_GV_g, s_GV_wi, s_GV_s, s_GV_r, s_GV_wr, s_GV_cs, s_GV_fr, s_GV_te, s_GV_as, s_GV_ho, s_GV_nu, s_GV_gx, s_GV_gy, s_GV_gp, s_GV_gw] at e
  unfold mX10_image
  rw [m_isEnd, decide_eq_true hin]
  simp only [Option.bind_some]
  rw [if_neg xb_n, m800, e]
  simp only [Option.bind_some]
  rw [x_ny xk, ck]
  rfl
theorem m_restore (ik kp v2 : Nat → Int32) (mi ne st da ke we ca gl ka iw : Int32) (y mo g wi s r wr cs fr te as ho nu gx gy gp gw y2 mo2 g2 wi2 s2 r2 wr2 cs2 fr2 te2 as2 ho2 nu2 gx2 gy2 gp2 gw2 : Nat → Int32) {k : Nat} (hk : k < 2) (hik : ¬ ik k = 0) (hkp : s_kp (800 * k) kp (s_V v2 y2 mo2 g2 wi2 s2 r2 wr2 cs2 fr2 te2 as2 ho2 nu2 gx2 gy2 gp2 gw2)) : ∃ y3 mo3 g3 wi3 s3 r3 wr3 cs3 fr3 te3 as3 ho3 nu3 gx3 gy3 gp3 gw3 : Nat → Int32, mX10_restore mi ne st da ke we ca gl ka iw y mo g wi s r wr cs fr te as ho nu gx gy gp gw kp ik (nI k) = some (1, v2 0, v2 1, v2 2, v2 3, v2 4, v2 5, v2 6, v2 7, nI (800 * k + 732), 0, y3, mo3, g3, wi3, s3, r3, wr3, cs3, fr3, te3, as3, ho3, nu3, gx3, gy3, gp3, gw3, kp) ∧ (∀ j, j < 60 → y3 j = y2 j) ∧ (∀ j, j < 60 → mo3 j = mo2 j) ∧ (∀ j, j < 60 → g3 j = g2 j) ∧ (∀ j, j < 60 → wi3 j = wi2 j) ∧ (∀ j, j < 60 → s3 j = s2 j) ∧ (∀ j, j < 60 → r3 j = r2 j) ∧ (∀ j, j < 60 → wr3 j = wr2 j) ∧ (∀ j, j < 4 → cs3 j = cs2 j) ∧ (∀ j, j < 60 → fr3 j = fr2 j) ∧ (∀ j, j < 56 → te3 j = te2 j) ∧ (∀ j, j < 56 → as3 j = as2 j) ∧ (∀ j, j < 56 → ho3 j = ho2 j) ∧ (∀ j, j < 56 → nu3 j = nu2 j) ∧ (∀ j, j < 4 → gx3 j = gx2 j) ∧ (∀ j, j < 4 → gy3 j = gy2 j) ∧ (∀ j, j < 4 → gp3 j = gp2 j) ∧ (∀ j, j < 4 → gw3 j = gw2 j) := by
  have m800 : (800 : Int32) * nI k = nI (800 * k) := pk_mul 800 k
  have xk : x_in (nI k) 2 := n_xin hk (by omega)
  have ck : (nI k).toNatClampNeg = k := nI_clamp (by omega)
  have hin : 0 ≤ nI k ∧ nI k ≤ 1 := ⟨nI_pos' (by omega), nI_le (b := 1) (by omega) (by omega)⟩
  have e := m_passAll (B := 800 * k) (w := 0) (V := s_V v2 y2 mo2 g2 wi2 s2 r2 wr2 cs2 fr2 te2 as2 ho2 nu2 gx2 gy2 gp2 gw2) (kp := kp) (mi := mi) (ne := ne) (st := st) (da := da) (ke := ke) (we := we) (ca := ca) (gl := gl) (y := y) (mo := mo) (g := g) (wi := wi) (s := s) (r := r) (wr := wr) (cs := cs) (fr := fr) (te := te) (as := as) (ho := ho) (nu := nu) (gx := gx) (gy := gy) (gp := gp) (gw := gw) (by omega) (.inr ⟨rfl, hkp 0 (by omega)⟩) (.inr ⟨rfl, hkp 1 (by omega)⟩) (.inr ⟨rfl, hkp 2 (by omega)⟩) (.inr ⟨rfl, hkp 3 (by omega)⟩) (.inr ⟨rfl, hkp 4 (by omega)⟩) (.inr ⟨rfl, hkp 5 (by omega)⟩) (.inr ⟨rfl, hkp 6 (by omega)⟩) (.inr ⟨rfl, hkp 7 (by omega)⟩) (fun j hj => .inr ⟨rfl, hkp _ (by omega)⟩) (fun j hj => .inr ⟨rfl, hkp _ (by omega)⟩) (fun j hj => .inr ⟨rfl, hkp _ (by omega)⟩) (fun j hj => .inr ⟨rfl, hkp _ (by omega)⟩) (fun j hj => .inr ⟨rfl, hkp _ (by omega)⟩) (fun j hj => .inr ⟨rfl, hkp _ (by omega)⟩) (fun j hj => .inr ⟨rfl, hkp _ (by omega)⟩) (fun j hj => .inr ⟨rfl, hkp _ (by omega)⟩) (fun j hj => .inr ⟨rfl, hkp _ (by omega)⟩) (fun j hj => .inr ⟨rfl, hkp _ (by omega)⟩) (fun j hj => .inr ⟨rfl, hkp _ (by omega)⟩) (fun j hj => .inr ⟨rfl, hkp _ (by omega)⟩) (fun j hj => .inr ⟨rfl, hkp _ (by omega)⟩) (fun j hj => .inr ⟨rfl, hkp _ (by omega)⟩) (fun j hj => .inr ⟨rfl, hkp _ (by omega)⟩) (fun j hj => .inr ⟨rfl, hkp _ (by omega)⟩) (fun j hj => .inr ⟨rfl, hkp _ (by omega)⟩)
  rw [s_K_same hkp] at e
  refine ⟨s_G (s_V v2 y2 mo2 g2 wi2 s2 r2 wr2 cs2 fr2 te2 as2 ho2 nu2 gx2 gy2 gp2 gw2) y 8 7 0 60, s_G (s_V v2 y2 mo2 g2 wi2 s2 r2 wr2 cs2 fr2 te2 as2 ho2 nu2 gx2 gy2 gp2 gw2) mo 8 7 1 60, s_G (s_V v2 y2 mo2 g2 wi2 s2 r2 wr2 cs2 fr2 te2 as2 ho2 nu2 gx2 gy2 gp2 gw2) g 8 7 2 60, s_G (s_V v2 y2 mo2 g2 wi2 s2 r2 wr2 cs2 fr2 te2 as2 ho2 nu2 gx2 gy2 gp2 gw2) wi 8 7 3 60, s_G (s_V v2 y2 mo2 g2 wi2 s2 r2 wr2 cs2 fr2 te2 as2 ho2 nu2 gx2 gy2 gp2 gw2) s 8 7 4 60, s_G (s_V v2 y2 mo2 g2 wi2 s2 r2 wr2 cs2 fr2 te2 as2 ho2 nu2 gx2 gy2 gp2 gw2) r 8 7 5 60, s_G (s_V v2 y2 mo2 g2 wi2 s2 r2 wr2 cs2 fr2 te2 as2 ho2 nu2 gx2 gy2 gp2 gw2) wr 8 7 6 60, s_G (s_V v2 y2 mo2 g2 wi2 s2 r2 wr2 cs2 fr2 te2 as2 ho2 nu2 gx2 gy2 gp2 gw2) cs 428 1 0 4, s_G (s_V v2 y2 mo2 g2 wi2 s2 r2 wr2 cs2 fr2 te2 as2 ho2 nu2 gx2 gy2 gp2 gw2) fr 432 1 0 60, s_G (s_V v2 y2 mo2 g2 wi2 s2 r2 wr2 cs2 fr2 te2 as2 ho2 nu2 gx2 gy2 gp2 gw2) te 492 4 0 56, s_G (s_V v2 y2 mo2 g2 wi2 s2 r2 wr2 cs2 fr2 te2 as2 ho2 nu2 gx2 gy2 gp2 gw2) as 492 4 1 56, s_G (s_V v2 y2 mo2 g2 wi2 s2 r2 wr2 cs2 fr2 te2 as2 ho2 nu2 gx2 gy2 gp2 gw2) ho 492 4 2 56, s_G (s_V v2 y2 mo2 g2 wi2 s2 r2 wr2 cs2 fr2 te2 as2 ho2 nu2 gx2 gy2 gp2 gw2) nu 492 4 3 56, s_G (s_V v2 y2 mo2 g2 wi2 s2 r2 wr2 cs2 fr2 te2 as2 ho2 nu2 gx2 gy2 gp2 gw2) gx 716 4 0 4, s_G (s_V v2 y2 mo2 g2 wi2 s2 r2 wr2 cs2 fr2 te2 as2 ho2 nu2 gx2 gy2 gp2 gw2) gy 716 4 1 4, s_G (s_V v2 y2 mo2 g2 wi2 s2 r2 wr2 cs2 fr2 te2 as2 ho2 nu2 gx2 gy2 gp2 gw2) gp 716 4 2 4, s_G (s_V v2 y2 mo2 g2 wi2 s2 r2 wr2 cs2 fr2 te2 as2 ho2 nu2 gx2 gy2 gp2 gw2) gw 716 4 3 4, ?_, fun j hj => s_GR_y y hj, fun j hj => s_GR_mo mo hj, fun j hj => s_GR_g g hj, fun j hj => s_GR_wi wi hj, fun j hj => s_GR_s s hj, fun j hj => s_GR_r r hj, fun j hj => s_GR_wr wr hj, fun j hj => s_GR_cs cs hj, fun j hj => s_GR_fr fr hj, fun j hj => s_GR_te te hj, fun j hj => s_GR_as as hj, fun j hj => s_GR_ho ho hj, fun j hj => s_GR_nu nu hj, fun j hj => s_GR_gx gx hj, fun j hj => s_GR_gy gy hj, fun j hj => s_GR_gp gp hj, fun j hj => s_GR_gw gw hj⟩
  unfold mX10_restore
  rw [m_isEnd, decide_eq_true hin]
  simp only [Option.bind_some]
  rw [if_neg xb_n, x_ny xk, ck, if_neg hik, m800, e]
  rfl
theorem m_imageOut {p : Int32} (h : ¬ (0 ≤ p ∧ p ≤ 1)) (ik kp : Nat → Int32) (mi ne st da ke we ca gl ka iw : Int32) (y mo g wi s r wr cs fr te as ho nu gx gy gp gw : Nat → Int32) : mX9_imageX p = some (-2) ∧ mX10_image mi ne st da ke we ca gl ka iw y mo g wi s r wr cs fr te as ho nu gx gy gp gw kp ik p = some (-2, mi, ne, st, da, ke, we, ca, gl, ka, iw, y, mo, g, wi, s, r, wr, cs, fr, te, as, ho, nu, gx, gy, gp, gw, kp, ik) ∧ mX9_restoreX p = some (-2) ∧ mX10_restore mi ne st da ke we ca gl ka iw y mo g wi s r wr cs fr te as ho nu gx gy gp gw kp ik p = some (-2, mi, ne, st, da, ke, we, ca, gl, ka, iw, y, mo, g, wi, s, r, wr, cs, fr, te, as, ho, nu, gx, gy, gp, gw, kp) := by
  unfold mX9_imageX mX10_image mX9_restoreX mX10_restore
  rw [m_isEnd, m_within p 0 1, decide_eq_false h]
  simp only [Option.bind_some]
  rw [if_pos xb_f, if_pos xb_f, if_pos xb_f]
  exact ⟨rfl, rfl, rfl, rfl⟩
theorem m_restoreNo (ik kp : Nat → Int32) (mi ne st da ke we ca gl ka iw : Int32) (y mo g wi s r wr cs fr te as ho nu gx gy gp gw : Nat → Int32) {k : Nat} (hk : k < 2) (hik : ik k = 0) : mX10_restore mi ne st da ke we ca gl ka iw y mo g wi s r wr cs fr te as ho nu gx gy gp gw kp ik (nI k) = some (-3, mi, ne, st, da, ke, we, ca, gl, ka, iw, y, mo, g, wi, s, r, wr, cs, fr, te, as, ho, nu, gx, gy, gp, gw, kp) := by
  have xk : x_in (nI k) 2 := n_xin hk (by omega)
  have ck : (nI k).toNatClampNeg = k := nI_clamp (by omega)
  have hin : 0 ≤ nI k ∧ nI k ≤ 1 := ⟨nI_pos' (by omega), nI_le (b := 1) (by omega) (by omega)⟩
  unfold mX10_restore
  rw [m_isEnd, decide_eq_true hin]
  simp only [Option.bind_some]
  rw [if_neg xb_n, x_ny xk, ck, if_pos hik]
