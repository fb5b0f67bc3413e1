/-! what the tables say of each method, field and call -/
theorem am_all {ws : List Cond} (ps : List Nat) (hp : ws = ps.filterMap (fun i => lw_tbl[i]?)) (h : ws.all goodWord = true) : ∀ w ∈ ws, w ∈ am_T := by
  intro w hw
  refine am_in ?_ (List.all_eq_true.mp h w hw)
  rw [hp] at hw
  obtain ⟨i, -, hi⟩ := List.mem_filterMap.mp hw
  exact List.mem_of_getElem? hi
set_option maxRecDepth 20000 in
theorem inX0 : ∀ w ∈ u_ws RX0 TX0 4, w ∈ am_T := am_all [178, 180, 182, 184] (by decide +kernel) (by decide +kernel)
set_option maxRecDepth 20000 in
theorem inX1 : ∀ w ∈ u_ws RX1 TX1 3, w ∈ am_T := am_all [425, 427, 429] (by decide +kernel) (by decide +kernel)
set_option maxRecDepth 20000 in
theorem inX2 : ∀ w ∈ u_ws RX2 TX2 3, w ∈ am_T := am_all [438, 439, 440] (by decide +kernel) (by decide +kernel)
set_option maxRecDepth 20000 in
theorem inX3 : ∀ w ∈ u_ws RX3 TX3 2, w ∈ am_T := am_all [83, 85] (by decide +kernel) (by decide +kernel)
set_option maxRecDepth 20000 in
theorem inX4 : ∀ w ∈ u_ws RX4 TX4 3, w ∈ am_T := am_all [464, 465, 466] (by decide +kernel) (by decide +kernel)
set_option maxRecDepth 20000 in
theorem inX5 : ∀ w ∈ u_ws RX5 TX5 11, w ∈ am_T := am_all [141, 143, 145, 147, 149, 151, 153, 155, 157, 159, 161] (by decide +kernel) (by decide +kernel)
set_option maxRecDepth 20000 in
theorem inX6 : ∀ w ∈ u_ws RX6 TX6 3, w ∈ am_T := am_all [448, 449, 450] (by decide +kernel) (by decide +kernel)
set_option maxRecDepth 20000 in
theorem inX7 : ∀ w ∈ u_ws RX7 TX7 3, w ∈ am_T := am_all [101, 103, 105] (by decide +kernel) (by decide +kernel)
set_option maxRecDepth 20000 in
theorem inX8 : ∀ w ∈ u_ws RX8 TX8 3, w ∈ am_T := am_all [458, 459, 460] (by decide +kernel) (by decide +kernel)
set_option maxRecDepth 20000 in
theorem inX9 : ∀ w ∈ u_ws RX9 TX9 15, w ∈ am_T := am_all [202, 204, 206, 208, 210, 212, 214, 216, 218, 220, 222, 224, 226, 228, 230] (by decide +kernel) (by decide +kernel)
set_option maxRecDepth 20000 in
theorem inX10 : ∀ w ∈ u_ws RX10 TX10 34, w ∈ am_T := am_all [728, 730, 732, 734, 736, 738, 740, 742, 744, 746, 748, 750, 752, 754, 756, 758, 760, 762, 764, 766, 768, 770, 772, 774, 776, 778, 780, 782, 784, 786, 788, 790, 792, 794] (by decide +kernel) (by decide +kernel)
theorem ini_X0 : Cond.initialized RX0 ∈ am_T := am_in (List.mem_of_getElem? (i := 54) (by decide +kernel)) rfl
theorem ini_X1 : Cond.initialized RX1 ∈ am_T := am_in (List.mem_of_getElem? (i := 59) (by decide +kernel)) rfl
theorem ini_X2 : Cond.initialized RX2 ∈ am_T := am_in (List.mem_of_getElem? (i := 60) (by decide +kernel)) rfl
theorem ini_X3 : Cond.initialized RX3 ∈ am_T := am_in (List.mem_of_getElem? (i := 51) (by decide +kernel)) rfl
theorem ini_X4 : Cond.initialized RX4 ∈ am_T := am_in (List.mem_of_getElem? (i := 58) (by decide +kernel)) rfl
theorem ini_X5 : Cond.initialized RX5 ∈ am_T := am_in (List.mem_of_getElem? (i := 53) (by decide +kernel)) rfl
theorem ini_X6 : Cond.initialized RX6 ∈ am_T := am_in (List.mem_of_getElem? (i := 61) (by decide +kernel)) rfl
theorem ini_X7 : Cond.initialized RX7 ∈ am_T := am_in (List.mem_of_getElem? (i := 52) (by decide +kernel)) rfl
theorem ini_X8 : Cond.initialized RX8 ∈ am_T := am_in (List.mem_of_getElem? (i := 62) (by decide +kernel)) rfl
theorem ini_X9 : Cond.initialized RX9 ∈ am_T := am_in (List.mem_of_getElem? (i := 50) (by decide +kernel)) rfl
theorem ini_X10 : Cond.initialized RX10 ∈ am_T := am_in (List.mem_of_getElem? (i := 55) (by decide +kernel)) rfl
theorem ini_J6 : Cond.initialized RJ6 ∈ am_T := am_in (List.mem_of_getElem? (i := 63) (by decide +kernel)) rfl
theorem ini_J9 : Cond.initialized RJ9 ∈ am_T := am_in (List.mem_of_getElem? (i := 57) (by decide +kernel)) rfl
theorem ini_L : Cond.initialized RL ∈ am_T := am_in (List.mem_of_getElem? (i := 49) (by decide +kernel)) rfl
def mX0_init : am_M := (yX0_init, cX0_init, 1, none, 1, 20, 4, 32)
set_option maxRecDepth 40000 in
theorem cd_X0_init : Cond.code (am_y mX0_init) (am_c mX0_init) (am_l mX0_init) (am_r mX0_init) ∈ am_T := am_in (List.mem_of_getElem? (i := 169) rfl) rfl
theorem im_X0_init : Cond.instanceMethod (am_y mX0_init) ∈ am_T := am_in (List.mem_of_getElem? (i := 168) (by decide +kernel)) rfl
def mX0_settle : am_M := (yX0_settle, cX0_settle, 7, none, 4, 104, 0, 0)
set_option maxRecDepth 40000 in
theorem cd_X0_settle : Cond.code (am_y mX0_settle) (am_c mX0_settle) (am_l mX0_settle) (am_r mX0_settle) ∈ am_T := am_in (List.mem_of_getElem? (i := 303) rfl) rfl
theorem im_X0_settle : Cond.instanceMethod (am_y mX0_settle) ∈ am_T := am_in (List.mem_of_getElem? (i := 301) (by decide +kernel)) rfl
def mX0_mingle : am_M := (yX0_mingle, cX0_mingle, 4, none, 0, 0, 0, 0)
set_option maxRecDepth 40000 in
theorem cd_X0_mingle : Cond.code (am_y mX0_mingle) (am_c mX0_mingle) (am_l mX0_mingle) (am_r mX0_mingle) ∈ am_T := am_in (List.mem_of_getElem? (i := 374) rfl) rfl
theorem im_X0_mingle : Cond.instanceMethod (am_y mX0_mingle) ∈ am_T := am_in (List.mem_of_getElem? (i := 373) (by decide +kernel)) rfl
def mX0_countBorders : am_M := (yX0_countBorders, cX0_countBorders, 3, (some .int), 1, 22, 0, 0)
set_option maxRecDepth 40000 in
theorem cd_X0_countBorders : Cond.code (am_y mX0_countBorders) (am_c mX0_countBorders) (am_l mX0_countBorders) (am_r mX0_countBorders) ∈ am_T := am_in (List.mem_of_getElem? (i := 386) rfl) rfl
theorem im_X0_countBorders : Cond.instanceMethod (am_y mX0_countBorders) ∈ am_T := am_in (List.mem_of_getElem? (i := 384) (by decide +kernel)) rfl
def mX0_isBorder : am_M := (yX0_isBorder, cX0_isBorder, 3, (some .boolean), 0, 0, 0, 0)
set_option maxRecDepth 40000 in
theorem cd_X0_isBorder : Cond.code (am_y mX0_isBorder) (am_c mX0_isBorder) (am_l mX0_isBorder) (am_r mX0_isBorder) ∈ am_T := am_in (List.mem_of_getElem? (i := 391) rfl) rfl
theorem im_X0_isBorder : Cond.instanceMethod (am_y mX0_isBorder) ∈ am_T := am_in (List.mem_of_getElem? (i := 390) (by decide +kernel)) rfl
def mX0_countOwned : am_M := (yX0_countOwned, cX0_countOwned, 3, (some .int), 0, 0, 0, 0)
set_option maxRecDepth 40000 in
theorem cd_X0_countOwned : Cond.code (am_y mX0_countOwned) (am_c mX0_countOwned) (am_l mX0_countOwned) (am_r mX0_countOwned) ∈ am_T := am_in (List.mem_of_getElem? (i := 670) rfl) rfl
theorem im_X0_countOwned : Cond.instanceMethod (am_y mX0_countOwned) ∈ am_T := am_in (List.mem_of_getElem? (i := 668) (by decide +kernel)) rfl
def mX1_init : am_M := (yX1_init, cX1_init, 4, none, 2, 43, 0, 0)
set_option maxRecDepth 40000 in
theorem cd_X1_init : Cond.code (am_y mX1_init) (am_c mX1_init) (am_l mX1_init) (am_r mX1_init) ∈ am_T := am_in (List.mem_of_getElem? (i := 410) rfl) rfl
theorem im_X1_init : Cond.instanceMethod (am_y mX1_init) ∈ am_T := am_in (List.mem_of_getElem? (i := 409) (by decide +kernel)) rfl
def mX1_kindNumber : am_M := (yX1_kindNumber, cX1_kindNumber, 1, (some .int), 0, 0, 0, 0)
set_option maxRecDepth 40000 in
theorem cd_X1_kindNumber : Cond.code (am_y mX1_kindNumber) (am_c mX1_kindNumber) (am_l mX1_kindNumber) (am_r mX1_kindNumber) ∈ am_T := am_in (List.mem_of_getElem? (i := 490) rfl) rfl
theorem im_X1_kindNumber : Cond.instanceMethod (am_y mX1_kindNumber) ∈ am_T := am_in (List.mem_of_getElem? (i := 489) (by decide +kernel)) rfl
def mX1_force : am_M := (yX1_force, cX1_force, 2, (some .int), 1, 21, 0, 0)
set_option maxRecDepth 40000 in
theorem cd_X1_force : Cond.code (am_y mX1_force) (am_c mX1_force) (am_l mX1_force) (am_r mX1_force) ∈ am_T := am_in (List.mem_of_getElem? (i := 327) rfl) rfl
theorem im_X1_force : Cond.instanceMethod (am_y mX1_force) ∈ am_T := am_in (List.mem_of_getElem? (i := 326) (by decide +kernel)) rfl
def mX2_init : am_M := (yX2_init, cX2_init, 4, none, 2, 43, 0, 0)
set_option maxRecDepth 40000 in
theorem cd_X2_init : Cond.code (am_y mX2_init) (am_c mX2_init) (am_l mX2_init) (am_r mX2_init) ∈ am_T := am_in (List.mem_of_getElem? (i := 436) rfl) rfl
theorem im_X2_init : Cond.instanceMethod (am_y mX2_init) ∈ am_T := am_in (List.mem_of_getElem? (i := 435) (by decide +kernel)) rfl
def mX2_kindNumber : am_M := (yX2_kindNumber, cX2_kindNumber, 1, (some .int), 0, 0, 0, 0)
set_option maxRecDepth 40000 in
theorem cd_X2_kindNumber : Cond.code (am_y mX2_kindNumber) (am_c mX2_kindNumber) (am_l mX2_kindNumber) (am_r mX2_kindNumber) ∈ am_T := am_in (List.mem_of_getElem? (i := 493) rfl) rfl
theorem im_X2_kindNumber : Cond.instanceMethod (am_y mX2_kindNumber) ∈ am_T := am_in (List.mem_of_getElem? (i := 492) (by decide +kernel)) rfl
def mX2_smellsAt : am_M := (yX2_smellsAt, cX2_smellsAt, 3, (some .boolean), 0, 0, 0, 0)
set_option maxRecDepth 40000 in
theorem cd_X2_smellsAt : Cond.code (am_y mX2_smellsAt) (am_c mX2_smellsAt) (am_l mX2_smellsAt) (am_r mX2_smellsAt) ∈ am_T := am_in (List.mem_of_getElem? (i := 315) rfl) rfl
theorem im_X2_smellsAt : Cond.instanceMethod (am_y mX2_smellsAt) ∈ am_T := am_in (List.mem_of_getElem? (i := 314) (by decide +kernel)) rfl
def mX3_init : am_M := (yX3_init, cX3_init, 1, none, 1, 20, 1, 14)
set_option maxRecDepth 40000 in
theorem cd_X3_init : Cond.code (am_y mX3_init) (am_c mX3_init) (am_l mX3_init) (am_r mX3_init) ∈ am_T := am_in (List.mem_of_getElem? (i := 76) rfl) rfl
theorem im_X3_init : Cond.instanceMethod (am_y mX3_init) ∈ am_T := am_in (List.mem_of_getElem? (i := 75) (by decide +kernel)) rfl
def mX3_isFull : am_M := (yX3_isFull, cX3_isFull, 1, (some .boolean), 0, 0, 0, 0)
set_option maxRecDepth 40000 in
theorem cd_X3_isFull : Cond.code (am_y mX3_isFull) (am_c mX3_isFull) (am_l mX3_isFull) (am_r mX3_isFull) ∈ am_T := am_in (List.mem_of_getElem? (i := 240) rfl) rfl
theorem im_X3_isFull : Cond.instanceMethod (am_y mX3_isFull) ∈ am_T := am_in (List.mem_of_getElem? (i := 238) (by decide +kernel)) rfl
def mX3_append : am_M := (yX3_append, cX3_append, 2, none, 1, 20, 0, 0)
set_option maxRecDepth 40000 in
theorem cd_X3_append : Cond.code (am_y mX3_append) (am_c mX3_append) (am_l mX3_append) (am_r mX3_append) ∈ am_T := am_in (List.mem_of_getElem? (i := 244) rfl) rfl
theorem im_X3_append : Cond.instanceMethod (am_y mX3_append) ∈ am_T := am_in (List.mem_of_getElem? (i := 242) (by decide +kernel)) rfl
def mX3_firstWrong : am_M := (yX3_firstWrong, cX3_firstWrong, 2, (some .int), 1, 21, 0, 0)
set_option maxRecDepth 40000 in
theorem cd_X3_firstWrong : Cond.code (am_y mX3_firstWrong) (am_c mX3_firstWrong) (am_l mX3_firstWrong) (am_r mX3_firstWrong) ∈ am_T := am_in (List.mem_of_getElem? (i := 257) rfl) rfl
theorem im_X3_firstWrong : Cond.instanceMethod (am_y mX3_firstWrong) ∈ am_T := am_in (List.mem_of_getElem? (i := 255) (by decide +kernel)) rfl
def mX3_isValley : am_M := (yX3_isValley, cX3_isValley, 1, (some .boolean), 2, 42, 0, 0)
set_option maxRecDepth 40000 in
theorem cd_X3_isValley : Cond.code (am_y mX3_isValley) (am_c mX3_isValley) (am_l mX3_isValley) (am_r mX3_isValley) ∈ am_T := am_in (List.mem_of_getElem? (i := 268) rfl) rfl
theorem im_X3_isValley : Cond.instanceMethod (am_y mX3_isValley) ∈ am_T := am_in (List.mem_of_getElem? (i := 266) (by decide +kernel)) rfl
def mX3_placeOf : am_M := (yX3_placeOf, cX3_placeOf, 1, (some .int), 0, 0, 0, 0)
set_option maxRecDepth 40000 in
theorem cd_X3_placeOf : Cond.code (am_y mX3_placeOf) (am_c mX3_placeOf) (am_l mX3_placeOf) (am_r mX3_placeOf) ∈ am_T := am_in (List.mem_of_getElem? (i := 276) rfl) rfl
theorem st_X3_placeOf : Cond.static (am_y mX3_placeOf) ∈ am_T := am_in (List.mem_of_getElem? (i := 275) (by decide +kernel)) rfl
def mX3_fits : am_M := (yX3_fits, cX3_fits, 2, (some .boolean), 0, 0, 0, 0)
set_option maxRecDepth 40000 in
theorem cd_X3_fits : Cond.code (am_y mX3_fits) (am_c mX3_fits) (am_l mX3_fits) (am_r mX3_fits) ∈ am_T := am_in (List.mem_of_getElem? (i := 260) rfl) rfl
theorem st_X3_fits : Cond.static (am_y mX3_fits) ∈ am_T := am_in (List.mem_of_getElem? (i := 259) (by decide +kernel)) rfl
def mX4_init : am_M := (yX4_init, cX4_init, 4, none, 1, 20, 0, 0)
set_option maxRecDepth 40000 in
theorem cd_X4_init : Cond.code (am_y mX4_init) (am_c mX4_init) (am_l mX4_init) (am_r mX4_init) ∈ am_T := am_in (List.mem_of_getElem? (i := 413) rfl) rfl
theorem im_X4_init : Cond.instanceMethod (am_y mX4_init) ∈ am_T := am_in (List.mem_of_getElem? (i := 412) (by decide +kernel)) rfl
def mX4_kindNumber : am_M := (yX4_kindNumber, cX4_kindNumber, 1, (some .int), 0, 0, 0, 0)
set_option maxRecDepth 40000 in
theorem cd_X4_kindNumber : Cond.code (am_y mX4_kindNumber) (am_c mX4_kindNumber) (am_l mX4_kindNumber) (am_r mX4_kindNumber) ∈ am_T := am_in (List.mem_of_getElem? (i := 500) rfl) rfl
theorem im_X4_kindNumber : Cond.instanceMethod (am_y mX4_kindNumber) ∈ am_T := am_in (List.mem_of_getElem? (i := 485) (by decide +kernel)) rfl
def mX4_force : am_M := (yX4_force, cX4_force, 2, (some .int), 0, 0, 0, 0)
set_option maxRecDepth 40000 in
theorem cd_X4_force : Cond.code (am_y mX4_force) (am_c mX4_force) (am_l mX4_force) (am_r mX4_force) ∈ am_T := am_in (List.mem_of_getElem? (i := 334) rfl) rfl
theorem im_X4_force : Cond.instanceMethod (am_y mX4_force) ∈ am_T := am_in (List.mem_of_getElem? (i := 322) (by decide +kernel)) rfl
def mX4_smellsAt : am_M := (yX4_smellsAt, cX4_smellsAt, 3, (some .boolean), 0, 0, 0, 0)
set_option maxRecDepth 40000 in
theorem cd_X4_smellsAt : Cond.code (am_y mX4_smellsAt) (am_c mX4_smellsAt) (am_l mX4_smellsAt) (am_r mX4_smellsAt) ∈ am_T := am_in (List.mem_of_getElem? (i := 320) rfl) rfl
theorem im_X4_smellsAt : Cond.instanceMethod (am_y mX4_smellsAt) ∈ am_T := am_in (List.mem_of_getElem? (i := 309) (by decide +kernel)) rfl
def mX4_ease : am_M := (yX4_ease, cX4_ease, 1, (some .int), 0, 0, 0, 0)
set_option maxRecDepth 40000 in
theorem cd_X4_ease : Cond.code (am_y mX4_ease) (am_c mX4_ease) (am_l mX4_ease) (am_r mX4_ease) ∈ am_T := am_in (List.mem_of_getElem? (i := 345) rfl) rfl
theorem im_X4_ease : Cond.instanceMethod (am_y mX4_ease) ∈ am_T := am_in (List.mem_of_getElem? (i := 336) (by decide +kernel)) rfl
def mX5_init : am_M := (yX5_init, cX5_init, 1, none, 1, 20, 6, 39)
set_option maxRecDepth 40000 in
theorem cd_X5_init : Cond.code (am_y mX5_init) (am_c mX5_init) (am_l mX5_init) (am_r mX5_init) ∈ am_T := am_in (List.mem_of_getElem? (i := 114) rfl) rfl
theorem im_X5_init : Cond.instanceMethod (am_y mX5_init) ∈ am_T := am_in (List.mem_of_getElem? (i := 113) (by decide +kernel)) rfl
def mX5_copyFrom : am_M := (yX5_copyFrom, cX5_copyFrom, 3, none, 1, 40, 0, 0)
set_option maxRecDepth 40000 in
theorem cd_X5_copyFrom : Cond.code (am_y mX5_copyFrom) (am_c mX5_copyFrom) (am_l mX5_copyFrom) (am_r mX5_copyFrom) ∈ am_T := am_in (List.mem_of_getElem? (i := 280) rfl) rfl
theorem im_X5_copyFrom : Cond.instanceMethod (am_y mX5_copyFrom) ∈ am_T := am_in (List.mem_of_getElem? (i := 278) (by decide +kernel)) rfl
def mX5_addSource : am_M := (yX5_addSource, cX5_addSource, 1, (some .int), 0, 0, 0, 0)
set_option maxRecDepth 40000 in
theorem cd_X5_addSource : Cond.code (am_y mX5_addSource) (am_c mX5_addSource) (am_l mX5_addSource) (am_r mX5_addSource) ∈ am_T := am_in (List.mem_of_getElem? (i := 471) rfl) rfl
theorem im_X5_addSource : Cond.instanceMethod (am_y mX5_addSource) ∈ am_T := am_in (List.mem_of_getElem? (i := 469) (by decide +kernel)) rfl
def mX5_addNose : am_M := (yX5_addNose, cX5_addNose, 3, none, 0, 0, 0, 0)
set_option maxRecDepth 40000 in
theorem cd_X5_addNose : Cond.code (am_y mX5_addNose) (am_c mX5_addNose) (am_l mX5_addNose) (am_r mX5_addNose) ∈ am_T := am_in (List.mem_of_getElem? (i := 596) rfl) rfl
theorem im_X5_addNose : Cond.instanceMethod (am_y mX5_addNose) ∈ am_T := am_in (List.mem_of_getElem? (i := 594) (by decide +kernel)) rfl
def mX5_smells : am_M := (yX5_smells, cX5_smells, 3, (some .boolean), 1, 22, 0, 0)
set_option maxRecDepth 40000 in
theorem cd_X5_smells : Cond.code (am_y mX5_smells) (am_c mX5_smells) (am_l mX5_smells) (am_r mX5_smells) ∈ am_T := am_in (List.mem_of_getElem? (i := 307) rfl) rfl
theorem im_X5_smells : Cond.instanceMethod (am_y mX5_smells) ∈ am_T := am_in (List.mem_of_getElem? (i := 305) (by decide +kernel)) rfl
def mX5_countBurning : am_M := (yX5_countBurning, cX5_countBurning, 3, (some .int), 0, 0, 0, 0)
set_option maxRecDepth 40000 in
theorem cd_X5_countBurning : Cond.code (am_y mX5_countBurning) (am_c mX5_countBurning) (am_l mX5_countBurning) (am_r mX5_countBurning) ∈ am_T := am_in (List.mem_of_getElem? (i := 666) rfl) rfl
theorem im_X5_countBurning : Cond.instanceMethod (am_y mX5_countBurning) ∈ am_T := am_in (List.mem_of_getElem? (i := 664) (by decide +kernel)) rfl
def mX5_endHour : am_M := (yX5_endHour, cX5_endHour, 2, none, 0, 0, 0, 0)
set_option maxRecDepth 40000 in
theorem cd_X5_endHour : Cond.code (am_y mX5_endHour) (am_c mX5_endHour) (am_l mX5_endHour) (am_r mX5_endHour) ∈ am_T := am_in (List.mem_of_getElem? (i := 543) rfl) rfl
theorem im_X5_endHour : Cond.instanceMethod (am_y mX5_endHour) ∈ am_T := am_in (List.mem_of_getElem? (i := 541) (by decide +kernel)) rfl
def mX6_init : am_M := (yX6_init, cX6_init, 4, none, 2, 43, 0, 0)
set_option maxRecDepth 40000 in
theorem cd_X6_init : Cond.code (am_y mX6_init) (am_c mX6_init) (am_l mX6_init) (am_r mX6_init) ∈ am_T := am_in (List.mem_of_getElem? (i := 446) rfl) rfl
theorem im_X6_init : Cond.instanceMethod (am_y mX6_init) ∈ am_T := am_in (List.mem_of_getElem? (i := 445) (by decide +kernel)) rfl
def mX6_kindNumber : am_M := (yX6_kindNumber, cX6_kindNumber, 1, (some .int), 0, 0, 0, 0)
set_option maxRecDepth 40000 in
theorem cd_X6_kindNumber : Cond.code (am_y mX6_kindNumber) (am_c mX6_kindNumber) (am_l mX6_kindNumber) (am_r mX6_kindNumber) ∈ am_T := am_in (List.mem_of_getElem? (i := 496) rfl) rfl
theorem im_X6_kindNumber : Cond.instanceMethod (am_y mX6_kindNumber) ∈ am_T := am_in (List.mem_of_getElem? (i := 495) (by decide +kernel)) rfl
def mX6_ease : am_M := (yX6_ease, cX6_ease, 1, (some .int), 0, 0, 0, 0)
set_option maxRecDepth 40000 in
theorem cd_X6_ease : Cond.code (am_y mX6_ease) (am_c mX6_ease) (am_l mX6_ease) (am_r mX6_ease) ∈ am_T := am_in (List.mem_of_getElem? (i := 343) rfl) rfl
theorem im_X6_ease : Cond.instanceMethod (am_y mX6_ease) ∈ am_T := am_in (List.mem_of_getElem? (i := 342) (by decide +kernel)) rfl
def mX7_init : am_M := (yX7_init, cX7_init, 1, none, 1, 20, 1, 8)
set_option maxRecDepth 40000 in
theorem cd_X7_init : Cond.code (am_y mX7_init) (am_c mX7_init) (am_l mX7_init) (am_r mX7_init) ∈ am_T := am_in (List.mem_of_getElem? (i := 93) rfl) rfl
theorem im_X7_init : Cond.instanceMethod (am_y mX7_init) ∈ am_T := am_in (List.mem_of_getElem? (i := 92) (by decide +kernel)) rfl
def mX7_isThere : am_M := (yX7_isThere, cX7_isThere, 1, (some .boolean), 0, 0, 0, 0)
set_option maxRecDepth 40000 in
theorem cd_X7_isThere : Cond.code (am_y mX7_isThere) (am_c mX7_isThere) (am_l mX7_isThere) (am_r mX7_isThere) ∈ am_T := am_in (List.mem_of_getElem? (i := 295) rfl) rfl
theorem im_X7_isThere : Cond.instanceMethod (am_y mX7_isThere) ∈ am_T := am_in (List.mem_of_getElem? (i := 293) (by decide +kernel)) rfl
def mX7_isOpen : am_M := (yX7_isOpen, cX7_isOpen, 2, (some .boolean), 0, 0, 0, 0)
set_option maxRecDepth 40000 in
theorem cd_X7_isOpen : Cond.code (am_y mX7_isOpen) (am_c mX7_isOpen) (am_l mX7_isOpen) (am_r mX7_isOpen) ∈ am_T := am_in (List.mem_of_getElem? (i := 402) rfl) rfl
theorem im_X7_isOpen : Cond.instanceMethod (am_y mX7_isOpen) ∈ am_T := am_in (List.mem_of_getElem? (i := 400) (by decide +kernel)) rfl
def mX7_isWall : am_M := (yX7_isWall, cX7_isWall, 2, (some .boolean), 0, 0, 0, 0)
set_option maxRecDepth 40000 in
theorem cd_X7_isWall : Cond.code (am_y mX7_isWall) (am_c mX7_isWall) (am_l mX7_isWall) (am_r mX7_isWall) ∈ am_T := am_in (List.mem_of_getElem? (i := 360) rfl) rfl
theorem im_X7_isWall : Cond.instanceMethod (am_y mX7_isWall) ∈ am_T := am_in (List.mem_of_getElem? (i := 358) (by decide +kernel)) rfl
def mX7_take : am_M := (yX7_take, cX7_take, 4, none, 1, 20, 0, 0)
set_option maxRecDepth 40000 in
theorem cd_X7_take : Cond.code (am_y mX7_take) (am_c mX7_take) (am_l mX7_take) (am_r mX7_take) ∈ am_T := am_in (List.mem_of_getElem? (i := 273) rfl) rfl
theorem im_X7_take : Cond.instanceMethod (am_y mX7_take) ∈ am_T := am_in (List.mem_of_getElem? (i := 271) (by decide +kernel)) rfl
def mX7_beside : am_M := (yX7_beside, cX7_beside, 2, (some .int), 0, 0, 0, 0)
set_option maxRecDepth 40000 in
theorem cd_X7_beside : Cond.code (am_y mX7_beside) (am_c mX7_beside) (am_l mX7_beside) (am_r mX7_beside) ∈ am_T := am_in (List.mem_of_getElem? (i := 356) rfl) rfl
theorem st_X7_beside : Cond.static (am_y mX7_beside) ∈ am_T := am_in (List.mem_of_getElem? (i := 355) (by decide +kernel)) rfl
def mX7_opposite : am_M := (yX7_opposite, cX7_opposite, 1, (some .int), 0, 0, 0, 0)
set_option maxRecDepth 40000 in
theorem cd_X7_opposite : Cond.code (am_y mX7_opposite) (am_c mX7_opposite) (am_l mX7_opposite) (am_r mX7_opposite) ∈ am_T := am_in (List.mem_of_getElem? (i := 367) rfl) rfl
theorem st_X7_opposite : Cond.static (am_y mX7_opposite) ∈ am_T := am_in (List.mem_of_getElem? (i := 366) (by decide +kernel)) rfl
def mX7_loss : am_M := (yX7_loss, cX7_loss, 6, (some .int), 1, 21, 0, 0)
set_option maxRecDepth 40000 in
theorem cd_X7_loss : Cond.code (am_y mX7_loss) (am_c mX7_loss) (am_l mX7_loss) (am_r mX7_loss) ∈ am_T := am_in (List.mem_of_getElem? (i := 364) rfl) rfl
theorem im_X7_loss : Cond.instanceMethod (am_y mX7_loss) ∈ am_T := am_in (List.mem_of_getElem? (i := 362) (by decide +kernel)) rfl
def mX7_spread : am_M := (yX7_spread, cX7_spread, 10, none, 3, 75, 0, 0)
set_option maxRecDepth 40000 in
theorem cd_X7_spread : Cond.code (am_y mX7_spread) (am_c mX7_spread) (am_l mX7_spread) (am_r mX7_spread) ∈ am_T := am_in (List.mem_of_getElem? (i := 349) rfl) rfl
theorem im_X7_spread : Cond.instanceMethod (am_y mX7_spread) ∈ am_T := am_in (List.mem_of_getElem? (i := 347) (by decide +kernel)) rfl
def mX7_spreadOn : am_M := (yX7_spreadOn, cX7_spreadOn, 10, (some .boolean), 2, 46, 0, 0)
set_option maxRecDepth 40000 in
theorem cd_X7_spreadOn : Cond.code (am_y mX7_spreadOn) (am_c mX7_spreadOn) (am_l mX7_spreadOn) (am_r mX7_spreadOn) ∈ am_T := am_in (List.mem_of_getElem? (i := 353) rfl) rfl
theorem im_X7_spreadOn : Cond.instanceMethod (am_y mX7_spreadOn) ∈ am_T := am_in (List.mem_of_getElem? (i := 352) (by decide +kernel)) rfl
def mX8_init : am_M := (yX8_init, cX8_init, 4, none, 3, 66, 0, 0)
set_option maxRecDepth 40000 in
theorem cd_X8_init : Cond.code (am_y mX8_init) (am_c mX8_init) (am_l mX8_init) (am_r mX8_init) ∈ am_T := am_in (List.mem_of_getElem? (i := 456) rfl) rfl
theorem im_X8_init : Cond.instanceMethod (am_y mX8_init) ∈ am_T := am_in (List.mem_of_getElem? (i := 455) (by decide +kernel)) rfl
def mX8_kindNumber : am_M := (yX8_kindNumber, cX8_kindNumber, 1, (some .int), 0, 0, 0, 0)
set_option maxRecDepth 40000 in
theorem cd_X8_kindNumber : Cond.code (am_y mX8_kindNumber) (am_c mX8_kindNumber) (am_l mX8_kindNumber) (am_r mX8_kindNumber) ∈ am_T := am_in (List.mem_of_getElem? (i := 499) rfl) rfl
theorem im_X8_kindNumber : Cond.instanceMethod (am_y mX8_kindNumber) ∈ am_T := am_in (List.mem_of_getElem? (i := 498) (by decide +kernel)) rfl
def mX8_smellsAt : am_M := (yX8_smellsAt, cX8_smellsAt, 3, (some .boolean), 0, 0, 0, 0)
set_option maxRecDepth 40000 in
theorem cd_X8_smellsAt : Cond.code (am_y mX8_smellsAt) (am_c mX8_smellsAt) (am_l mX8_smellsAt) (am_r mX8_smellsAt) ∈ am_T := am_in (List.mem_of_getElem? (i := 319) rfl) rfl
theorem im_X8_smellsAt : Cond.instanceMethod (am_y mX8_smellsAt) ∈ am_T := am_in (List.mem_of_getElem? (i := 318) (by decide +kernel)) rfl
def mX9_init : am_M := (yX9_init, cX9_init, 1, none, 2, 40, 35, 275)
set_option maxRecDepth 40000 in
theorem cd_X9_init : Cond.code (am_y mX9_init) (am_c mX9_init) (am_l mX9_init) (am_r mX9_init) ∈ am_T := am_in (List.mem_of_getElem? (i := 68) rfl) rfl
theorem im_X9_init : Cond.instanceMethod (am_y mX9_init) ∈ am_T := am_in (List.mem_of_getElem? (i := 67) (by decide +kernel)) rfl
def mX9_letter : am_M := (yX9_letter, cX9_letter, 2, (some .int), 2, 41, 0, 0)
set_option maxRecDepth 40000 in
theorem cd_X9_letter : Cond.code (am_y mX9_letter) (am_c mX9_letter) (am_l mX9_letter) (am_r mX9_letter) ∈ am_T := am_in (List.mem_of_getElem? (i := 236) rfl) rfl
theorem im_X9_letter : Cond.instanceMethod (am_y mX9_letter) ∈ am_T := am_in (List.mem_of_getElem? (i := 234) (by decide +kernel)) rfl
def mX9_blank : am_M := (yX9_blank, cX9_blank, 2, (some .int), 0, 0, 0, 0)
set_option maxRecDepth 40000 in
theorem cd_X9_blank : Cond.code (am_y mX9_blank) (am_c mX9_blank) (am_l mX9_blank) (am_r mX9_blank) ∈ am_T := am_in (List.mem_of_getElem? (i := 249) rfl) rfl
theorem im_X9_blank : Cond.instanceMethod (am_y mX9_blank) ∈ am_T := am_in (List.mem_of_getElem? (i := 247) (by decide +kernel)) rfl
def mX9_fault : am_M := (yX9_fault, cX9_fault, 1, (some .int), 2, 42, 0, 0)
set_option maxRecDepth 40000 in
theorem cd_X9_fault : Cond.code (am_y mX9_fault) (am_c mX9_fault) (am_l mX9_fault) (am_r mX9_fault) ∈ am_T := am_in (List.mem_of_getElem? (i := 253) rfl) rfl
theorem im_X9_fault : Cond.instanceMethod (am_y mX9_fault) ∈ am_T := am_in (List.mem_of_getElem? (i := 251) (by decide +kernel)) rfl
def mX9_valley : am_M := (yX9_valley, cX9_valley, 1, (some .int), 3, 62, 7, 50)
set_option maxRecDepth 40000 in
theorem cd_X9_valley : Cond.code (am_y mX9_valley) (am_c mX9_valley) (am_l mX9_valley) (am_r mX9_valley) ∈ am_T := am_in (List.mem_of_getElem? (i := 264) rfl) rfl
theorem im_X9_valley : Cond.instanceMethod (am_y mX9_valley) ∈ am_T := am_in (List.mem_of_getElem? (i := 262) (by decide +kernel)) rfl
def mX9_cell : am_M := (yX9_cell, cX9_cell, 3, (some .int), 6, 150, 0, 0)
set_option maxRecDepth 40000 in
theorem cd_X9_cell : Cond.code (am_y mX9_cell) (am_c mX9_cell) (am_l mX9_cell) (am_r mX9_cell) ∈ am_T := am_in (List.mem_of_getElem? (i := 287) rfl) rfl
theorem im_X9_cell : Cond.instanceMethod (am_y mX9_cell) ∈ am_T := am_in (List.mem_of_getElem? (i := 285) (by decide +kernel)) rfl
def mX9_borders : am_M := (yX9_borders, cX9_borders, 1, (some .int), 6, 150, 0, 0)
set_option maxRecDepth 40000 in
theorem cd_X9_borders : Cond.code (am_y mX9_borders) (am_c mX9_borders) (am_l mX9_borders) (am_r mX9_borders) ∈ am_T := am_in (List.mem_of_getElem? (i := 382) rfl) rfl
theorem im_X9_borders : Cond.instanceMethod (am_y mX9_borders) ∈ am_T := am_in (List.mem_of_getElem? (i := 380) (by decide +kernel)) rfl
def mX9_source : am_M := (yX9_source, cX9_source, 5, (some .int), 5, 112, 1, 3)
set_option maxRecDepth 40000 in
theorem cd_X9_source : Cond.code (am_y mX9_source) (am_c mX9_source) (am_l mX9_source) (am_r mX9_source) ∈ am_T := am_in (List.mem_of_getElem? (i := 395) rfl) rfl
theorem im_X9_source : Cond.instanceMethod (am_y mX9_source) ∈ am_T := am_in (List.mem_of_getElem? (i := 393) (by decide +kernel)) rfl
def mX9_about : am_M := (yX9_about, cX9_about, 4, (some .int), 4, 104, 0, 0)
set_option maxRecDepth 40000 in
theorem cd_X9_about : Cond.code (am_y mX9_about) (am_c mX9_about) (am_l mX9_about) (am_r mX9_about) ∈ am_T := am_in (List.mem_of_getElem? (i := 475) rfl) rfl
theorem im_X9_about : Cond.instanceMethod (am_y mX9_about) ∈ am_T := am_in (List.mem_of_getElem? (i := 473) (by decide +kernel)) rfl
def mX9_as : am_M := (yX9_as, cX9_as, 4, (some .int), 1, 21, 0, 0)
set_option maxRecDepth 40000 in
theorem cd_X9_as : Cond.code (am_y mX9_as) (am_c mX9_as) (am_l mX9_as) (am_r mX9_as) ∈ am_T := am_in (List.mem_of_getElem? (i := 511) rfl) rfl
theorem im_X9_as : Cond.instanceMethod (am_y mX9_as) ∈ am_T := am_in (List.mem_of_getElem? (i := 509) (by decide +kernel)) rfl
def mX9_burn : am_M := (yX9_burn, cX9_burn, 4, (some .int), 1, 21, 0, 0)
set_option maxRecDepth 40000 in
theorem cd_X9_burn : Cond.code (am_y mX9_burn) (am_c mX9_burn) (am_l mX9_burn) (am_r mX9_burn) ∈ am_T := am_in (List.mem_of_getElem? (i := 518) rfl) rfl
theorem im_X9_burn : Cond.instanceMethod (am_y mX9_burn) ∈ am_T := am_in (List.mem_of_getElem? (i := 516) (by decide +kernel)) rfl
def mX9_wind : am_M := (yX9_wind, cX9_wind, 3, (some .int), 1, 20, 0, 0)
set_option maxRecDepth 40000 in
theorem cd_X9_wind : Cond.code (am_y mX9_wind) (am_c mX9_wind) (am_l mX9_wind) (am_r mX9_wind) ∈ am_T := am_in (List.mem_of_getElem? (i := 522) rfl) rfl
theorem im_X9_wind : Cond.instanceMethod (am_y mX9_wind) ∈ am_T := am_in (List.mem_of_getElem? (i := 520) (by decide +kernel)) rfl
def mX9_frost : am_M := (yX9_frost, cX9_frost, 3, (some .int), 1, 20, 0, 0)
set_option maxRecDepth 40000 in
theorem cd_X9_frost : Cond.code (am_y mX9_frost) (am_c mX9_frost) (am_l mX9_frost) (am_r mX9_frost) ∈ am_T := am_in (List.mem_of_getElem? (i := 526) rfl) rfl
theorem im_X9_frost : Cond.instanceMethod (am_y mX9_frost) ∈ am_T := am_in (List.mem_of_getElem? (i := 524) (by decide +kernel)) rfl
def mX9_people : am_M := (yX9_people, cX9_people, 4, (some .int), 2, 41, 0, 0)
set_option maxRecDepth 40000 in
theorem cd_X9_people : Cond.code (am_y mX9_people) (am_c mX9_people) (am_l mX9_people) (am_r mX9_people) ∈ am_T := am_in (List.mem_of_getElem? (i := 530) rfl) rfl
theorem im_X9_people : Cond.instanceMethod (am_y mX9_people) ∈ am_T := am_in (List.mem_of_getElem? (i := 528) (by decide +kernel)) rfl
def mX9_dusk : am_M := (yX9_dusk, cX9_dusk, 5, (some .int), 6, 150, 0, 0)
set_option maxRecDepth 40000 in
theorem cd_X9_dusk : Cond.code (am_y mX9_dusk) (am_c mX9_dusk) (am_l mX9_dusk) (am_r mX9_dusk) ∈ am_T := am_in (List.mem_of_getElem? (i := 535) rfl) rfl
theorem im_X9_dusk : Cond.instanceMethod (am_y mX9_dusk) ∈ am_T := am_in (List.mem_of_getElem? (i := 533) (by decide +kernel)) rfl
def mX9_hour : am_M := (yX9_hour, cX9_hour, 1, (some .int), 1, 21, 0, 0)
set_option maxRecDepth 40000 in
theorem cd_X9_hour : Cond.code (am_y mX9_hour) (am_c mX9_hour) (am_l mX9_hour) (am_r mX9_hour) ∈ am_T := am_in (List.mem_of_getElem? (i := 539) rfl) rfl
theorem im_X9_hour : Cond.instanceMethod (am_y mX9_hour) ∈ am_T := am_in (List.mem_of_getElem? (i := 537) (by decide +kernel)) rfl
def mX9_weakest : am_M := (yX9_weakest, cX9_weakest, 6, (some .int), 6, 150, 0, 0)
set_option maxRecDepth 40000 in
theorem cd_X9_weakest : Cond.code (am_y mX9_weakest) (am_c mX9_weakest) (am_l mX9_weakest) (am_r mX9_weakest) ∈ am_T := am_in (List.mem_of_getElem? (i := 547) rfl) rfl
theorem im_X9_weakest : Cond.instanceMethod (am_y mX9_weakest) ∈ am_T := am_in (List.mem_of_getElem? (i := 545) (by decide +kernel)) rfl
def mX9_walls : am_M := (yX9_walls, cX9_walls, 5, (some .int), 6, 156, 0, 0)
set_option maxRecDepth 40000 in
theorem cd_X9_walls : Cond.code (am_y mX9_walls) (am_c mX9_walls) (am_l mX9_walls) (am_r mX9_walls) ∈ am_T := am_in (List.mem_of_getElem? (i := 562) rfl) rfl
theorem im_X9_walls : Cond.instanceMethod (am_y mX9_walls) ∈ am_T := am_in (List.mem_of_getElem? (i := 560) (by decide +kernel)) rfl
def mX9_hold : am_M := (yX9_hold, cX9_hold, 3, (some .int), 6, 153, 0, 0)
set_option maxRecDepth 40000 in
theorem cd_X9_hold : Cond.code (am_y mX9_hold) (am_c mX9_hold) (am_l mX9_hold) (am_r mX9_hold) ∈ am_T := am_in (List.mem_of_getElem? (i := 580) rfl) rfl
theorem im_X9_hold : Cond.instanceMethod (am_y mX9_hold) ∈ am_T := am_in (List.mem_of_getElem? (i := 578) (by decide +kernel)) rfl
def mX9_nose : am_M := (yX9_nose, cX9_nose, 3, (some .int), 2, 41, 0, 0)
set_option maxRecDepth 40000 in
theorem cd_X9_nose : Cond.code (am_y mX9_nose) (am_c mX9_nose) (am_l mX9_nose) (am_r mX9_nose) ∈ am_T := am_in (List.mem_of_getElem? (i := 592) rfl) rfl
theorem im_X9_nose : Cond.instanceMethod (am_y mX9_nose) ∈ am_T := am_in (List.mem_of_getElem? (i := 590) (by decide +kernel)) rfl
def mX9_forget : am_M := (yX9_forget, cX9_forget, 2, (some .int), 0, 0, 0, 0)
set_option maxRecDepth 40000 in
theorem cd_X9_forget : Cond.code (am_y mX9_forget) (am_c mX9_forget) (am_l mX9_forget) (am_r mX9_forget) ∈ am_T := am_in (List.mem_of_getElem? (i := 600) rfl) rfl
theorem im_X9_forget : Cond.instanceMethod (am_y mX9_forget) ∈ am_T := am_in (List.mem_of_getElem? (i := 598) (by decide +kernel)) rfl
def mX9_unknown : am_M := (yX9_unknown, cX9_unknown, 5, (some .int), 6, 150, 0, 0)
set_option maxRecDepth 40000 in
theorem cd_X9_unknown : Cond.code (am_y mX9_unknown) (am_c mX9_unknown) (am_l mX9_unknown) (am_r mX9_unknown) ∈ am_T := am_in (List.mem_of_getElem? (i := 604) rfl) rfl
theorem im_X9_unknown : Cond.instanceMethod (am_y mX9_unknown) ∈ am_T := am_in (List.mem_of_getElem? (i := 602) (by decide +kernel)) rfl
def mX9_sniff : am_M := (yX9_sniff, cX9_sniff, 1, (some .int), 7, 174, 0, 0)
set_option maxRecDepth 40000 in
theorem cd_X9_sniff : Cond.code (am_y mX9_sniff) (am_c mX9_sniff) (am_l mX9_sniff) (am_r mX9_sniff) ∈ am_T := am_in (List.mem_of_getElem? (i := 623) rfl) rfl
theorem im_X9_sniff : Cond.instanceMethod (am_y mX9_sniff) ∈ am_T := am_in (List.mem_of_getElem? (i := 621) (by decide +kernel)) rfl
def mX9_days : am_M := (yX9_days, cX9_days, 7, (some .int), 5, 130, 0, 0)
set_option maxRecDepth 40000 in
theorem cd_X9_days : Cond.code (am_y mX9_days) (am_c mX9_days) (am_l mX9_days) (am_r mX9_days) ∈ am_T := am_in (List.mem_of_getElem? (i := 636) rfl) rfl
theorem im_X9_days : Cond.instanceMethod (am_y mX9_days) ∈ am_T := am_in (List.mem_of_getElem? (i := 634) (by decide +kernel)) rfl
def mX9_image : am_M := (yX9_image, cX9_image, 1, (some .int), 2, 62, 0, 0)
set_option maxRecDepth 40000 in
theorem cd_X9_image : Cond.code (am_y mX9_image) (am_c mX9_image) (am_l mX9_image) (am_r mX9_image) ∈ am_T := am_in (List.mem_of_getElem? (i := 650) rfl) rfl
theorem im_X9_image : Cond.instanceMethod (am_y mX9_image) ∈ am_T := am_in (List.mem_of_getElem? (i := 648) (by decide +kernel)) rfl
def mX9_restore : am_M := (yX9_restore, cX9_restore, 1, (some .int), 2, 62, 0, 0)
set_option maxRecDepth 40000 in
theorem cd_X9_restore : Cond.code (am_y mX9_restore) (am_c mX9_restore) (am_l mX9_restore) (am_r mX9_restore) ∈ am_T := am_in (List.mem_of_getElem? (i := 654) rfl) rfl
theorem im_X9_restore : Cond.instanceMethod (am_y mX9_restore) ∈ am_T := am_in (List.mem_of_getElem? (i := 652) (by decide +kernel)) rfl
def mX9_count : am_M := (yX9_count, cX9_count, 2, (some .int), 6, 150, 0, 0)
set_option maxRecDepth 40000 in
theorem cd_X9_count : Cond.code (am_y mX9_count) (am_c mX9_count) (am_l mX9_count) (am_r mX9_count) ∈ am_T := am_in (List.mem_of_getElem? (i := 658) rfl) rfl
theorem im_X9_count : Cond.instanceMethod (am_y mX9_count) ∈ am_T := am_in (List.mem_of_getElem? (i := 656) (by decide +kernel)) rfl
def mX9_digest : am_M := (yX9_digest, cX9_digest, 4, (some .long), 6, 153, 0, 0)
set_option maxRecDepth 40000 in
theorem cd_X9_digest : Cond.code (am_y mX9_digest) (am_c mX9_digest) (am_l mX9_digest) (am_r mX9_digest) ∈ am_T := am_in (List.mem_of_getElem? (i := 674) rfl) rfl
theorem im_X9_digest : Cond.instanceMethod (am_y mX9_digest) ∈ am_T := am_in (List.mem_of_getElem? (i := 672) (by decide +kernel)) rfl
def mX9_isParish : am_M := (yX9_isParish, cX9_isParish, 1, (some .boolean), 0, 0, 0, 0)
set_option maxRecDepth 40000 in
theorem cd_X9_isParish : Cond.code (am_y mX9_isParish) (am_c mX9_isParish) (am_l mX9_isParish) (am_r mX9_isParish) ∈ am_T := am_in (List.mem_of_getElem? (i := 398) rfl) rfl
theorem st_X9_isParish : Cond.static (am_y mX9_isParish) ∈ am_T := am_in (List.mem_of_getElem? (i := 397) (by decide +kernel)) rfl
def mX9_isZeroOrOne : am_M := (yX9_isZeroOrOne, cX9_isZeroOrOne, 1, (some .boolean), 0, 0, 0, 0)
set_option maxRecDepth 40000 in
theorem cd_X9_isZeroOrOne : Cond.code (am_y mX9_isZeroOrOne) (am_c mX9_isZeroOrOne) (am_l mX9_isZeroOrOne) (am_r mX9_isZeroOrOne) ∈ am_T := am_in (List.mem_of_getElem? (i := 550) rfl) rfl
theorem st_X9_isZeroOrOne : Cond.static (am_y mX9_isZeroOrOne) ∈ am_T := am_in (List.mem_of_getElem? (i := 549) (by decide +kernel)) rfl
def mX9_bit : am_M := (yX9_bit, cX9_bit, 1, (some .int), 0, 0, 0, 0)
set_option maxRecDepth 40000 in
theorem cd_X9_bit : Cond.code (am_y mX9_bit) (am_c mX9_bit) (am_l mX9_bit) (am_r mX9_bit) ∈ am_T := am_in (List.mem_of_getElem? (i := 503) rfl) rfl
theorem st_X9_bit : Cond.static (am_y mX9_bit) ∈ am_T := am_in (List.mem_of_getElem? (i := 502) (by decide +kernel)) rfl
def mX9_mix : am_M := (yX9_mix, cX9_mix, 4, (some .long), 0, 0, 0, 0)
set_option maxRecDepth 40000 in
theorem cd_X9_mix : Cond.code (am_y mX9_mix) (am_c mX9_mix) (am_l mX9_mix) (am_r mX9_mix) ∈ am_T := am_in (List.mem_of_getElem? (i := 682) rfl) rfl
theorem st_X9_mix : Cond.static (am_y mX9_mix) ∈ am_T := am_in (List.mem_of_getElem? (i := 681) (by decide +kernel)) rfl
def mX9_nextSeed : am_M := (yX9_nextSeed, cX9_nextSeed, 1, (some .int), 0, 0, 0, 0)
set_option maxRecDepth 40000 in
theorem cd_X9_nextSeed : Cond.code (am_y mX9_nextSeed) (am_c mX9_nextSeed) (am_l mX9_nextSeed) (am_r mX9_nextSeed) ∈ am_T := am_in (List.mem_of_getElem? (i := 639) rfl) rfl
theorem st_X9_nextSeed : Cond.static (am_y mX9_nextSeed) ∈ am_T := am_in (List.mem_of_getElem? (i := 638) (by decide +kernel)) rfl
def mX9_draw : am_M := (yX9_draw, cX9_draw, 2, (some .int), 0, 0, 0, 0)
set_option maxRecDepth 40000 in
theorem cd_X9_draw : Cond.code (am_y mX9_draw) (am_c mX9_draw) (am_l mX9_draw) (am_r mX9_draw) ∈ am_T := am_in (List.mem_of_getElem? (i := 645) rfl) rfl
theorem st_X9_draw : Cond.static (am_y mX9_draw) ∈ am_T := am_in (List.mem_of_getElem? (i := 644) (by decide +kernel)) rfl
def mX9_make : am_M := (yX9_make, cX9_make, 4, (some (.object "SmellBorders$Source")), 4, 89, 1, 3)
set_option maxRecDepth 40000 in
theorem cd_X9_make : Cond.code (am_y mX9_make) (am_c mX9_make) (am_l mX9_make) (am_r mX9_make) ∈ am_T := am_in (List.mem_of_getElem? (i := 405) rfl) rfl
theorem st_X9_make : Cond.static (am_y mX9_make) ∈ am_T := am_in (List.mem_of_getElem? (i := 404) (by decide +kernel)) rfl
def mX9_isOfKind : am_M := (yX9_isOfKind, cX9_isOfKind, 2, (some .boolean), 0, 0, 0, 0)
set_option maxRecDepth 40000 in
theorem cd_X9_isOfKind : Cond.code (am_y mX9_isOfKind) (am_c mX9_isOfKind) (am_l mX9_isOfKind) (am_r mX9_isOfKind) ∈ am_T := am_in (List.mem_of_getElem? (i := 514) rfl) rfl
theorem st_X9_isOfKind : Cond.static (am_y mX9_isOfKind) ∈ am_T := am_in (List.mem_of_getElem? (i := 513) (by decide +kernel)) rfl
def mX9_isCell : am_M := (yX9_isCell, cX9_isCell, 2, (some .boolean), 1, 20, 0, 0)
set_option maxRecDepth 40000 in
theorem cd_X9_isCell : Cond.code (am_y mX9_isCell) (am_c mX9_isCell) (am_l mX9_isCell) (am_r mX9_isCell) ∈ am_T := am_in (List.mem_of_getElem? (i := 291) rfl) rfl
theorem im_X9_isCell : Cond.instanceMethod (am_y mX9_isCell) ∈ am_T := am_in (List.mem_of_getElem? (i := 290) (by decide +kernel)) rfl
def mX9_find : am_M := (yX9_find, cX9_find, 2, (some (.object "SmellBorders$Source")), 0, 0, 0, 0)
set_option maxRecDepth 40000 in
theorem cd_X9_find : Cond.code (am_y mX9_find) (am_c mX9_find) (am_l mX9_find) (am_r mX9_find) ∈ am_T := am_in (List.mem_of_getElem? (i := 479) rfl) rfl
theorem im_X9_find : Cond.instanceMethod (am_y mX9_find) ∈ am_T := am_in (List.mem_of_getElem? (i := 478) (by decide +kernel)) rfl
def mX9_settleNow : am_M := (yX9_settleNow, cX9_settleNow, 1, none, 5, 130, 0, 0)
set_option maxRecDepth 40000 in
theorem cd_X9_settleNow : Cond.code (am_y mX9_settleNow) (am_c mX9_settleNow) (am_l mX9_settleNow) (am_r mX9_settleNow) ∈ am_T := am_in (List.mem_of_getElem? (i := 299) rfl) rfl
theorem im_X9_settleNow : Cond.instanceMethod (am_y mX9_settleNow) ∈ am_T := am_in (List.mem_of_getElem? (i := 298) (by decide +kernel)) rfl
def mX9_mayAsk : am_M := (yX9_mayAsk, cX9_mayAsk, 1, (some .boolean), 1, 20, 0, 0)
set_option maxRecDepth 40000 in
theorem cd_X9_mayAsk : Cond.code (am_y mX9_mayAsk) (am_c mX9_mayAsk) (am_l mX9_mayAsk) (am_r mX9_mayAsk) ∈ am_T := am_in (List.mem_of_getElem? (i := 608) rfl) rfl
theorem im_X9_mayAsk : Cond.instanceMethod (am_y mX9_mayAsk) ∈ am_T := am_in (List.mem_of_getElem? (i := 607) (by decide +kernel)) rfl
def mX9_tellOfCell : am_M := (yX9_tellOfCell, cX9_tellOfCell, 3, (some .int), 0, 0, 0, 0)
set_option maxRecDepth 40000 in
theorem cd_X9_tellOfCell : Cond.code (am_y mX9_tellOfCell) (am_c mX9_tellOfCell) (am_l mX9_tellOfCell) (am_r mX9_tellOfCell) ∈ am_T := am_in (List.mem_of_getElem? (i := 378) rfl) rfl
theorem im_X9_tellOfCell : Cond.instanceMethod (am_y mX9_tellOfCell) ∈ am_T := am_in (List.mem_of_getElem? (i := 377) (by decide +kernel)) rfl
def mX9_tellOfSource : am_M := (yX9_tellOfSource, cX9_tellOfSource, 4, (some .int), 2, 44, 0, 0)
set_option maxRecDepth 40000 in
theorem cd_X9_tellOfSource : Cond.code (am_y mX9_tellOfSource) (am_c mX9_tellOfSource) (am_l mX9_tellOfSource) (am_r mX9_tellOfSource) ∈ am_T := am_in (List.mem_of_getElem? (i := 483) rfl) rfl
theorem im_X9_tellOfSource : Cond.instanceMethod (am_y mX9_tellOfSource) ∈ am_T := am_in (List.mem_of_getElem? (i := 482) (by decide +kernel)) rfl
def mX9_tellOfAll : am_M := (yX9_tellOfAll, cX9_tellOfAll, 2, (some .int), 1, 22, 0, 0)
set_option maxRecDepth 40000 in
theorem cd_X9_tellOfAll : Cond.code (am_y mX9_tellOfAll) (am_c mX9_tellOfAll) (am_l mX9_tellOfAll) (am_r mX9_tellOfAll) ∈ am_T := am_in (List.mem_of_getElem? (i := 662) rfl) rfl
theorem im_X9_tellOfAll : Cond.instanceMethod (am_y mX9_tellOfAll) ∈ am_T := am_in (List.mem_of_getElem? (i := 661) (by decide +kernel)) rfl
def mX9_digestCells : am_M := (yX9_digestCells, cX9_digestCells, 7, (some .long), 1, 23, 0, 0)
set_option maxRecDepth 40000 in
theorem cd_X9_digestCells : Cond.code (am_y mX9_digestCells) (am_c mX9_digestCells) (am_l mX9_digestCells) (am_r mX9_digestCells) ∈ am_T := am_in (List.mem_of_getElem? (i := 679) rfl) rfl
theorem im_X9_digestCells : Cond.instanceMethod (am_y mX9_digestCells) ∈ am_T := am_in (List.mem_of_getElem? (i := 678) (by decide +kernel)) rfl
def mX9_digestSource : am_M := (yX9_digestSource, cX9_digestSource, 8, (some .long), 3, 67, 0, 0)
set_option maxRecDepth 40000 in
theorem cd_X9_digestSource : Cond.code (am_y mX9_digestSource) (am_c mX9_digestSource) (am_l mX9_digestSource) (am_r mX9_digestSource) ∈ am_T := am_in (List.mem_of_getElem? (i := 687) rfl) rfl
theorem im_X9_digestSource : Cond.instanceMethod (am_y mX9_digestSource) ∈ am_T := am_in (List.mem_of_getElem? (i := 686) (by decide +kernel)) rfl
def mX9_spreadOneMore : am_M := (yX9_spreadOneMore, cX9_spreadOneMore, 3, none, 4, 104, 0, 0)
set_option maxRecDepth 40000 in
theorem cd_X9_spreadOneMore : Cond.code (am_y mX9_spreadOneMore) (am_c mX9_spreadOneMore) (am_l mX9_spreadOneMore) (am_r mX9_spreadOneMore) ∈ am_T := am_in (List.mem_of_getElem? (i := 558) rfl) rfl
theorem im_X9_spreadOneMore : Cond.instanceMethod (am_y mX9_spreadOneMore) ∈ am_T := am_in (List.mem_of_getElem? (i := 557) (by decide +kernel)) rfl
def mX9_wouldWin : am_M := (yX9_wouldWin, cX9_wouldWin, 4, (some .boolean), 5, 126, 0, 0)
set_option maxRecDepth 40000 in
theorem cd_X9_wouldWin : Cond.code (am_y mX9_wouldWin) (am_c mX9_wouldWin) (am_l mX9_wouldWin) (am_r mX9_wouldWin) ∈ am_T := am_in (List.mem_of_getElem? (i := 554) rfl) rfl
theorem im_X9_wouldWin : Cond.instanceMethod (am_y mX9_wouldWin) ∈ am_T := am_in (List.mem_of_getElem? (i := 553) (by decide +kernel)) rfl
def mX9_fewestWalls : am_M := (yX9_fewestWalls, cX9_fewestWalls, 7, (some .int), 5, 130, 0, 0)
set_option maxRecDepth 40000 in
theorem cd_X9_fewestWalls : Cond.code (am_y mX9_fewestWalls) (am_c mX9_fewestWalls) (am_l mX9_fewestWalls) (am_r mX9_fewestWalls) ∈ am_T := am_in (List.mem_of_getElem? (i := 566) rfl) rfl
theorem im_X9_fewestWalls : Cond.instanceMethod (am_y mX9_fewestWalls) ∈ am_T := am_in (List.mem_of_getElem? (i := 565) (by decide +kernel)) rfl
def mX9_cellsFreeForWalls : am_M := (yX9_cellsFreeForWalls, cX9_cellsFreeForWalls, 5, (some .int), 1, 21, 0, 0)
set_option maxRecDepth 40000 in
theorem cd_X9_cellsFreeForWalls : Cond.code (am_y mX9_cellsFreeForWalls) (am_c mX9_cellsFreeForWalls) (am_l mX9_cellsFreeForWalls) (am_r mX9_cellsFreeForWalls) ∈ am_T := am_in (List.mem_of_getElem? (i := 570) rfl) rfl
theorem im_X9_cellsFreeForWalls : Cond.instanceMethod (am_y mX9_cellsFreeForWalls) ∈ am_T := am_in (List.mem_of_getElem? (i := 569) (by decide +kernel)) rfl
def mX9_watchHolders : am_M := (yX9_watchHolders, cX9_watchHolders, 4, none, 5, 130, 0, 0)
set_option maxRecDepth 40000 in
theorem cd_X9_watchHolders : Cond.code (am_y mX9_watchHolders) (am_c mX9_watchHolders) (am_l mX9_watchHolders) (am_r mX9_watchHolders) ∈ am_T := am_in (List.mem_of_getElem? (i := 584) rfl) rfl
theorem im_X9_watchHolders : Cond.instanceMethod (am_y mX9_watchHolders) ∈ am_T := am_in (List.mem_of_getElem? (i := 583) (by decide +kernel)) rfl
def mX9_heldBy : am_M := (yX9_heldBy, cX9_heldBy, 3, (some .int), 0, 0, 0, 0)
set_option maxRecDepth 40000 in
theorem cd_X9_heldBy : Cond.code (am_y mX9_heldBy) (am_c mX9_heldBy) (am_l mX9_heldBy) (am_r mX9_heldBy) ∈ am_T := am_in (List.mem_of_getElem? (i := 588) rfl) rfl
theorem im_X9_heldBy : Cond.instanceMethod (am_y mX9_heldBy) ∈ am_T := am_in (List.mem_of_getElem? (i := 587) (by decide +kernel)) rfl
def mX9_fitsNoses : am_M := (yX9_fitsNoses, cX9_fitsNoses, 5, (some .boolean), 5, 126, 0, 0)
set_option maxRecDepth 40000 in
theorem cd_X9_fitsNoses : Cond.code (am_y mX9_fitsNoses) (am_c mX9_fitsNoses) (am_l mX9_fitsNoses) (am_r mX9_fitsNoses) ∈ am_T := am_in (List.mem_of_getElem? (i := 612) rfl) rfl
theorem im_X9_fitsNoses : Cond.instanceMethod (am_y mX9_fitsNoses) ∈ am_T := am_in (List.mem_of_getElem? (i := 611) (by decide +kernel)) rfl
def mX9_parishOf : am_M := (yX9_parishOf, cX9_parishOf, 1, (some .int), 0, 0, 0, 0)
set_option maxRecDepth 40000 in
theorem cd_X9_parishOf : Cond.code (am_y mX9_parishOf) (am_c mX9_parishOf) (am_l mX9_parishOf) (am_r mX9_parishOf) ∈ am_T := am_in (List.mem_of_getElem? (i := 615) rfl) rfl
theorem st_X9_parishOf : Cond.static (am_y mX9_parishOf) ∈ am_T := am_in (List.mem_of_getElem? (i := 614) (by decide +kernel)) rfl
def mX9_whoseWith : am_M := (yX9_whoseWith, cX9_whoseWith, 3, (some .int), 0, 0, 0, 0)
set_option maxRecDepth 40000 in
theorem cd_X9_whoseWith : Cond.code (am_y mX9_whoseWith) (am_c mX9_whoseWith) (am_l mX9_whoseWith) (am_r mX9_whoseWith) ∈ am_T := am_in (List.mem_of_getElem? (i := 619) rfl) rfl
theorem im_X9_whoseWith : Cond.instanceMethod (am_y mX9_whoseWith) ∈ am_T := am_in (List.mem_of_getElem? (i := 618) (by decide +kernel)) rfl
def mX9_tallyFindings : am_M := (yX9_tallyFindings, cX9_tallyFindings, 5, (some .int), 6, 150, 0, 0)
set_option maxRecDepth 40000 in
theorem cd_X9_tallyFindings : Cond.code (am_y mX9_tallyFindings) (am_c mX9_tallyFindings) (am_l mX9_tallyFindings) (am_r mX9_tallyFindings) ∈ am_T := am_in (List.mem_of_getElem? (i := 627) rfl) rfl
theorem im_X9_tallyFindings : Cond.instanceMethod (am_y mX9_tallyFindings) ∈ am_T := am_in (List.mem_of_getElem? (i := 626) (by decide +kernel)) rfl
def mX9_cellOfFewestLeft : am_M := (yX9_cellOfFewestLeft, cX9_cellOfFewestLeft, 6, (some .int), 1, 21, 0, 0)
set_option maxRecDepth 40000 in
theorem cd_X9_cellOfFewestLeft : Cond.code (am_y mX9_cellOfFewestLeft) (am_c mX9_cellOfFewestLeft) (am_l mX9_cellOfFewestLeft) (am_r mX9_cellOfFewestLeft) ∈ am_T := am_in (List.mem_of_getElem? (i := 631) rfl) rfl
theorem im_X9_cellOfFewestLeft : Cond.instanceMethod (am_y mX9_cellOfFewestLeft) ∈ am_T := am_in (List.mem_of_getElem? (i := 630) (by decide +kernel)) rfl
def mX10_init : am_M := (yX10_init, cX10_init, 1, none, 1, 20, 16, 266)
set_option maxRecDepth 40000 in
theorem cd_X10_init : Cond.code (am_y mX10_init) (am_c mX10_init) (am_l mX10_init) (am_r mX10_init) ∈ am_T := am_in (List.mem_of_getElem? (i := 692) rfl) rfl
theorem im_X10_init : Cond.instanceMethod (am_y mX10_init) ∈ am_T := am_in (List.mem_of_getElem? (i := 691) (by decide +kernel)) rfl
def mX10_in : am_M := (yX10_in, cX10_in, 6, (some .boolean), 0, 0, 0, 0)
set_option maxRecDepth 40000 in
theorem cd_X10_in : Cond.code (am_y mX10_in) (am_c mX10_in) (am_l mX10_in) (am_r mX10_in) ∈ am_T := am_in (List.mem_of_getElem? (i := 804) rfl) rfl
theorem st_X10_in : Cond.static (am_y mX10_in) ∈ am_T := am_in (List.mem_of_getElem? (i := 803) (by decide +kernel)) rfl
def mX10_letter : am_M := (yX10_letter, cX10_letter, 2, (some .int), 1, 25, 0, 0)
set_option maxRecDepth 40000 in
theorem cd_X10_letter : Cond.code (am_y mX10_letter) (am_c mX10_letter) (am_l mX10_letter) (am_r mX10_letter) ∈ am_T := am_in (List.mem_of_getElem? (i := 800) rfl) rfl
theorem im_X10_letter : Cond.instanceMethod (am_y mX10_letter) ∈ am_T := am_in (List.mem_of_getElem? (i := 798) (by decide +kernel)) rfl
def mX10_blank : am_M := (yX10_blank, cX10_blank, 2, (some .int), 0, 0, 0, 0)
set_option maxRecDepth 40000 in
theorem cd_X10_blank : Cond.code (am_y mX10_blank) (am_c mX10_blank) (am_l mX10_blank) (am_r mX10_blank) ∈ am_T := am_in (List.mem_of_getElem? (i := 808) rfl) rfl
theorem im_X10_blank : Cond.instanceMethod (am_y mX10_blank) ∈ am_T := am_in (List.mem_of_getElem? (i := 806) (by decide +kernel)) rfl
def mX10_isGood : am_M := (yX10_isGood, cX10_isGood, 2, (some .boolean), 1, 25, 0, 0)
set_option maxRecDepth 40000 in
theorem cd_X10_isGood : Cond.code (am_y mX10_isGood) (am_c mX10_isGood) (am_l mX10_isGood) (am_r mX10_isGood) ∈ am_T := am_in (List.mem_of_getElem? (i := 819) rfl) rfl
theorem st_X10_isGood : Cond.static (am_y mX10_isGood) ∈ am_T := am_in (List.mem_of_getElem? (i := 818) (by decide +kernel)) rfl
def mX10_faultOf : am_M := (yX10_faultOf, cX10_faultOf, 2, (some .int), 2, 46, 0, 0)
set_option maxRecDepth 40000 in
theorem cd_X10_faultOf : Cond.code (am_y mX10_faultOf) (am_c mX10_faultOf) (am_l mX10_faultOf) (am_r mX10_faultOf) ∈ am_T := am_in (List.mem_of_getElem? (i := 816) rfl) rfl
theorem im_X10_faultOf : Cond.instanceMethod (am_y mX10_faultOf) ∈ am_T := am_in (List.mem_of_getElem? (i := 815) (by decide +kernel)) rfl
def mX10_fault : am_M := (yX10_fault, cX10_fault, 1, (some .int), 3, 67, 0, 0)
set_option maxRecDepth 40000 in
theorem cd_X10_fault : Cond.code (am_y mX10_fault) (am_c mX10_fault) (am_l mX10_fault) (am_r mX10_fault) ∈ am_T := am_in (List.mem_of_getElem? (i := 812) rfl) rfl
theorem im_X10_fault : Cond.instanceMethod (am_y mX10_fault) ∈ am_T := am_in (List.mem_of_getElem? (i := 810) (by decide +kernel)) rfl
def mX10_opens : am_M := (yX10_opens, cX10_opens, 3, (some .int), 0, 0, 0, 0)
set_option maxRecDepth 40000 in
theorem cd_X10_opens : Cond.code (am_y mX10_opens) (am_c mX10_opens) (am_l mX10_opens) (am_r mX10_opens) ∈ am_T := am_in (List.mem_of_getElem? (i := 829) rfl) rfl
theorem im_X10_opens : Cond.instanceMethod (am_y mX10_opens) ∈ am_T := am_in (List.mem_of_getElem? (i := 828) (by decide +kernel)) rfl
def mX10_valley : am_M := (yX10_valley, cX10_valley, 3, (some .int), 3, 67, 0, 0)
set_option maxRecDepth 40000 in
theorem cd_X10_valley : Cond.code (am_y mX10_valley) (am_c mX10_valley) (am_l mX10_valley) (am_r mX10_valley) ∈ am_T := am_in (List.mem_of_getElem? (i := 825) rfl) rfl
theorem im_X10_valley : Cond.instanceMethod (am_y mX10_valley) ∈ am_T := am_in (List.mem_of_getElem? (i := 823) (by decide +kernel)) rfl
def mX10_lacks : am_M := (yX10_lacks, cX10_lacks, 1, (some .boolean), 0, 0, 0, 0)
set_option maxRecDepth 40000 in
theorem cd_X10_lacks : Cond.code (am_y mX10_lacks) (am_c mX10_lacks) (am_l mX10_lacks) (am_r mX10_lacks) ∈ am_T := am_in (List.mem_of_getElem? (i := 845) rfl) rfl
theorem im_X10_lacks : Cond.instanceMethod (am_y mX10_lacks) ∈ am_T := am_in (List.mem_of_getElem? (i := 844) (by decide +kernel)) rfl
def mX10_isCell : am_M := (yX10_isCell, cX10_isCell, 2, (some .boolean), 1, 25, 0, 0)
set_option maxRecDepth 40000 in
theorem cd_X10_isCell : Cond.code (am_y mX10_isCell) (am_c mX10_isCell) (am_l mX10_isCell) (am_r mX10_isCell) ∈ am_T := am_in (List.mem_of_getElem? (i := 840) rfl) rfl
theorem im_X10_isCell : Cond.instanceMethod (am_y mX10_isCell) ∈ am_T := am_in (List.mem_of_getElem? (i := 839) (by decide +kernel)) rfl
def mX10_isSource : am_M := (yX10_isSource, cX10_isSource, 2, (some .boolean), 1, 25, 0, 0)
set_option maxRecDepth 40000 in
theorem cd_X10_isSource : Cond.code (am_y mX10_isSource) (am_c mX10_isSource) (am_l mX10_isSource) (am_r mX10_isSource) ∈ am_T := am_in (List.mem_of_getElem? (i := 903) rfl) rfl
theorem im_X10_isSource : Cond.instanceMethod (am_y mX10_isSource) ∈ am_T := am_in (List.mem_of_getElem? (i := 902) (by decide +kernel)) rfl
def mX10_lay : am_M := (yX10_lay, cX10_lay, 6, none, 0, 0, 0, 0)
set_option maxRecDepth 40000 in
theorem cd_X10_lay : Cond.code (am_y mX10_lay) (am_c mX10_lay) (am_l mX10_lay) (am_r mX10_lay) ∈ am_T := am_in (List.mem_of_getElem? (i := 849) rfl) rfl
theorem im_X10_lay : Cond.instanceMethod (am_y mX10_lay) ∈ am_T := am_in (List.mem_of_getElem? (i := 848) (by decide +kernel)) rfl
def mX10_source : am_M := (yX10_source, cX10_source, 5, (some .int), 2, 46, 0, 0)
set_option maxRecDepth 40000 in
theorem cd_X10_source : Cond.code (am_y mX10_source) (am_c mX10_source) (am_l mX10_source) (am_r mX10_source) ∈ am_T := am_in (List.mem_of_getElem? (i := 833) rfl) rfl
theorem im_X10_source : Cond.instanceMethod (am_y mX10_source) ∈ am_T := am_in (List.mem_of_getElem? (i := 831) (by decide +kernel)) rfl
def mX10_smells : am_M := (yX10_smells, cX10_smells, 3, (some .boolean), 0, 0, 0, 0)
set_option maxRecDepth 40000 in
theorem cd_X10_smells : Cond.code (am_y mX10_smells) (am_c mX10_smells) (am_l mX10_smells) (am_r mX10_smells) ∈ am_T := am_in (List.mem_of_getElem? (i := 869) rfl) rfl
theorem im_X10_smells : Cond.instanceMethod (am_y mX10_smells) ∈ am_T := am_in (List.mem_of_getElem? (i := 868) (by decide +kernel)) rfl
def mX10_forceOf : am_M := (yX10_forceOf, cX10_forceOf, 3, (some .int), 0, 0, 0, 0)
set_option maxRecDepth 40000 in
theorem cd_X10_forceOf : Cond.code (am_y mX10_forceOf) (am_c mX10_forceOf) (am_l mX10_forceOf) (am_r mX10_forceOf) ∈ am_T := am_in (List.mem_of_getElem? (i := 873) rfl) rfl
theorem im_X10_forceOf : Cond.instanceMethod (am_y mX10_forceOf) ∈ am_T := am_in (List.mem_of_getElem? (i := 872) (by decide +kernel)) rfl
def mX10_beside : am_M := (yX10_beside, cX10_beside, 3, (some .int), 0, 0, 0, 0)
set_option maxRecDepth 40000 in
theorem cd_X10_beside : Cond.code (am_y mX10_beside) (am_c mX10_beside) (am_l mX10_beside) (am_r mX10_beside) ∈ am_T := am_in (List.mem_of_getElem? (i := 876) rfl) rfl
theorem st_X10_beside : Cond.static (am_y mX10_beside) ∈ am_T := am_in (List.mem_of_getElem? (i := 875) (by decide +kernel)) rfl
def mX10_against : am_M := (yX10_against, cX10_against, 1, (some .int), 0, 0, 0, 0)
set_option maxRecDepth 40000 in
theorem cd_X10_against : Cond.code (am_y mX10_against) (am_c mX10_against) (am_l mX10_against) (am_r mX10_against) ∈ am_T := am_in (List.mem_of_getElem? (i := 883) rfl) rfl
theorem st_X10_against : Cond.static (am_y mX10_against) ∈ am_T := am_in (List.mem_of_getElem? (i := 882) (by decide +kernel)) rfl
def mX10_lossOf : am_M := (yX10_lossOf, cX10_lossOf, 5, (some .int), 1, 20, 0, 0)
set_option maxRecDepth 40000 in
theorem cd_X10_lossOf : Cond.code (am_y mX10_lossOf) (am_c mX10_lossOf) (am_l mX10_lossOf) (am_r mX10_lossOf) ∈ am_T := am_in (List.mem_of_getElem? (i := 880) rfl) rfl
theorem im_X10_lossOf : Cond.instanceMethod (am_y mX10_lossOf) ∈ am_T := am_in (List.mem_of_getElem? (i := 879) (by decide +kernel)) rfl
def mX10_layMuch : am_M := (yX10_layMuch, cX10_layMuch, 8, none, 2, 44, 0, 0)
set_option maxRecDepth 40000 in
theorem cd_X10_layMuch : Cond.code (am_y mX10_layMuch) (am_c mX10_layMuch) (am_l mX10_layMuch) (am_r mX10_layMuch) ∈ am_T := am_in (List.mem_of_getElem? (i := 865) rfl) rfl
theorem im_X10_layMuch : Cond.instanceMethod (am_y mX10_layMuch) ∈ am_T := am_in (List.mem_of_getElem? (i := 864) (by decide +kernel)) rfl
def mX10_layCells : am_M := (yX10_layCells, cX10_layCells, 3, none, 3, 71, 0, 0)
set_option maxRecDepth 40000 in
theorem cd_X10_layCells : Cond.code (am_y mX10_layCells) (am_c mX10_layCells) (am_l mX10_layCells) (am_r mX10_layCells) ∈ am_T := am_in (List.mem_of_getElem? (i := 861) rfl) rfl
theorem im_X10_layCells : Cond.instanceMethod (am_y mX10_layCells) ∈ am_T := am_in (List.mem_of_getElem? (i := 860) (by decide +kernel)) rfl
def mX10_whose : am_M := (yX10_whose, cX10_whose, 2, (some .int), 0, 0, 0, 0)
set_option maxRecDepth 40000 in
theorem cd_X10_whose : Cond.code (am_y mX10_whose) (am_c mX10_whose) (am_l mX10_whose) (am_r mX10_whose) ∈ am_T := am_in (List.mem_of_getElem? (i := 887) rfl) rfl
theorem im_X10_whose : Cond.instanceMethod (am_y mX10_whose) ∈ am_T := am_in (List.mem_of_getElem? (i := 886) (by decide +kernel)) rfl
def mX10_tellCell : am_M := (yX10_tellCell, cX10_tellCell, 3, (some .int), 4, 93, 0, 0)
set_option maxRecDepth 40000 in
theorem cd_X10_tellCell : Cond.code (am_y mX10_tellCell) (am_c mX10_tellCell) (am_l mX10_tellCell) (am_r mX10_tellCell) ∈ am_T := am_in (List.mem_of_getElem? (i := 857) rfl) rfl
theorem im_X10_tellCell : Cond.instanceMethod (am_y mX10_tellCell) ∈ am_T := am_in (List.mem_of_getElem? (i := 856) (by decide +kernel)) rfl
def mX10_cell : am_M := (yX10_cell, cX10_cell, 3, (some .int), 5, 115, 0, 0)
set_option maxRecDepth 40000 in
theorem cd_X10_cell : Cond.code (am_y mX10_cell) (am_c mX10_cell) (am_l mX10_cell) (am_r mX10_cell) ∈ am_T := am_in (List.mem_of_getElem? (i := 853) rfl) rfl
theorem im_X10_cell : Cond.instanceMethod (am_y mX10_cell) ∈ am_T := am_in (List.mem_of_getElem? (i := 851) (by decide +kernel)) rfl
def mX10_bordersOf : am_M := (yX10_bordersOf, cX10_bordersOf, 5, (some .int), 4, 93, 0, 0)
set_option maxRecDepth 40000 in
theorem cd_X10_bordersOf : Cond.code (am_y mX10_bordersOf) (am_c mX10_bordersOf) (am_l mX10_bordersOf) (am_r mX10_bordersOf) ∈ am_T := am_in (List.mem_of_getElem? (i := 895) rfl) rfl
theorem im_X10_bordersOf : Cond.instanceMethod (am_y mX10_bordersOf) ∈ am_T := am_in (List.mem_of_getElem? (i := 894) (by decide +kernel)) rfl
def mX10_borders : am_M := (yX10_borders, cX10_borders, 1, (some .int), 5, 117, 0, 0)
set_option maxRecDepth 40000 in
theorem cd_X10_borders : Cond.code (am_y mX10_borders) (am_c mX10_borders) (am_l mX10_borders) (am_r mX10_borders) ∈ am_T := am_in (List.mem_of_getElem? (i := 891) rfl) rfl
theorem im_X10_borders : Cond.instanceMethod (am_y mX10_borders) ∈ am_T := am_in (List.mem_of_getElem? (i := 889) (by decide +kernel)) rfl
def mX10_tell : am_M := (yX10_tell, cX10_tell, 3, (some .int), 3, 71, 0, 0)
set_option maxRecDepth 40000 in
theorem cd_X10_tell : Cond.code (am_y mX10_tell) (am_c mX10_tell) (am_l mX10_tell) (am_r mX10_tell) ∈ am_T := am_in (List.mem_of_getElem? (i := 907) rfl) rfl
theorem im_X10_tell : Cond.instanceMethod (am_y mX10_tell) ∈ am_T := am_in (List.mem_of_getElem? (i := 906) (by decide +kernel)) rfl
def mX10_about : am_M := (yX10_about, cX10_about, 3, (some .int), 4, 93, 0, 0)
set_option maxRecDepth 40000 in
theorem cd_X10_about : Cond.code (am_y mX10_about) (am_c mX10_about) (am_l mX10_about) (am_r mX10_about) ∈ am_T := am_in (List.mem_of_getElem? (i := 899) rfl) rfl
theorem im_X10_about : Cond.instanceMethod (am_y mX10_about) ∈ am_T := am_in (List.mem_of_getElem? (i := 897) (by decide +kernel)) rfl
def mX10_as : am_M := (yX10_as, cX10_as, 5, (some .int), 2, 46, 0, 0)
set_option maxRecDepth 40000 in
theorem cd_X10_as : Cond.code (am_y mX10_as) (am_c mX10_as) (am_l mX10_as) (am_r mX10_as) ∈ am_T := am_in (List.mem_of_getElem? (i := 914) rfl) rfl
theorem im_X10_as : Cond.instanceMethod (am_y mX10_as) ∈ am_T := am_in (List.mem_of_getElem? (i := 912) (by decide +kernel)) rfl
def mX10_burn : am_M := (yX10_burn, cX10_burn, 4, (some .int), 2, 46, 0, 0)
set_option maxRecDepth 40000 in
theorem cd_X10_burn : Cond.code (am_y mX10_burn) (am_c mX10_burn) (am_l mX10_burn) (am_r mX10_burn) ∈ am_T := am_in (List.mem_of_getElem? (i := 918) rfl) rfl
theorem im_X10_burn : Cond.instanceMethod (am_y mX10_burn) ∈ am_T := am_in (List.mem_of_getElem? (i := 916) (by decide +kernel)) rfl
def mX10_wind : am_M := (yX10_wind, cX10_wind, 3, (some .int), 1, 25, 0, 0)
set_option maxRecDepth 40000 in
theorem cd_X10_wind : Cond.code (am_y mX10_wind) (am_c mX10_wind) (am_l mX10_wind) (am_r mX10_wind) ∈ am_T := am_in (List.mem_of_getElem? (i := 922) rfl) rfl
theorem im_X10_wind : Cond.instanceMethod (am_y mX10_wind) ∈ am_T := am_in (List.mem_of_getElem? (i := 920) (by decide +kernel)) rfl
def mX10_frost : am_M := (yX10_frost, cX10_frost, 3, (some .int), 1, 20, 0, 0)
set_option maxRecDepth 40000 in
theorem cd_X10_frost : Cond.code (am_y mX10_frost) (am_c mX10_frost) (am_l mX10_frost) (am_r mX10_frost) ∈ am_T := am_in (List.mem_of_getElem? (i := 926) rfl) rfl
theorem im_X10_frost : Cond.instanceMethod (am_y mX10_frost) ∈ am_T := am_in (List.mem_of_getElem? (i := 924) (by decide +kernel)) rfl
def mX10_people : am_M := (yX10_people, cX10_people, 4, (some .int), 2, 46, 0, 0)
set_option maxRecDepth 40000 in
theorem cd_X10_people : Cond.code (am_y mX10_people) (am_c mX10_people) (am_l mX10_people) (am_r mX10_people) ∈ am_T := am_in (List.mem_of_getElem? (i := 930) rfl) rfl
theorem im_X10_people : Cond.instanceMethod (am_y mX10_people) ∈ am_T := am_in (List.mem_of_getElem? (i := 928) (by decide +kernel)) rfl
def mX10_dusk : am_M := (yX10_dusk, cX10_dusk, 4, (some .int), 4, 93, 0, 0)
set_option maxRecDepth 40000 in
theorem cd_X10_dusk : Cond.code (am_y mX10_dusk) (am_c mX10_dusk) (am_l mX10_dusk) (am_r mX10_dusk) ∈ am_T := am_in (List.mem_of_getElem? (i := 934) rfl) rfl
theorem im_X10_dusk : Cond.instanceMethod (am_y mX10_dusk) ∈ am_T := am_in (List.mem_of_getElem? (i := 932) (by decide +kernel)) rfl
def mX10_ends : am_M := (yX10_ends, cX10_ends, 2, none, 0, 0, 0, 0)
set_option maxRecDepth 40000 in
theorem cd_X10_ends : Cond.code (am_y mX10_ends) (am_c mX10_ends) (am_l mX10_ends) (am_r mX10_ends) ∈ am_T := am_in (List.mem_of_getElem? (i := 942) rfl) rfl
theorem im_X10_ends : Cond.instanceMethod (am_y mX10_ends) ∈ am_T := am_in (List.mem_of_getElem? (i := 941) (by decide +kernel)) rfl
def mX10_hour : am_M := (yX10_hour, cX10_hour, 1, (some .int), 1, 21, 0, 0)
set_option maxRecDepth 40000 in
theorem cd_X10_hour : Cond.code (am_y mX10_hour) (am_c mX10_hour) (am_l mX10_hour) (am_r mX10_hour) ∈ am_T := am_in (List.mem_of_getElem? (i := 938) rfl) rfl
theorem im_X10_hour : Cond.instanceMethod (am_y mX10_hour) ∈ am_T := am_in (List.mem_of_getElem? (i := 936) (by decide +kernel)) rfl
def mX10_whoseBy : am_M := (yX10_whoseBy, cX10_whoseBy, 6, (some .int), 4, 93, 0, 0)
set_option maxRecDepth 40000 in
theorem cd_X10_whoseBy : Cond.code (am_y mX10_whoseBy) (am_c mX10_whoseBy) (am_l mX10_whoseBy) (am_r mX10_whoseBy) ∈ am_T := am_in (List.mem_of_getElem? (i := 954) rfl) rfl
theorem im_X10_whoseBy : Cond.instanceMethod (am_y mX10_whoseBy) ∈ am_T := am_in (List.mem_of_getElem? (i := 953) (by decide +kernel)) rfl
def mX10_weakestOf : am_M := (yX10_weakestOf, cX10_weakestOf, 6, (some .int), 5, 118, 0, 0)
set_option maxRecDepth 40000 in
theorem cd_X10_weakestOf : Cond.code (am_y mX10_weakestOf) (am_c mX10_weakestOf) (am_l mX10_weakestOf) (am_r mX10_weakestOf) ∈ am_T := am_in (List.mem_of_getElem? (i := 950) rfl) rfl
theorem im_X10_weakestOf : Cond.instanceMethod (am_y mX10_weakestOf) ∈ am_T := am_in (List.mem_of_getElem? (i := 949) (by decide +kernel)) rfl
def mX10_weakest : am_M := (yX10_weakest, cX10_weakest, 4, (some .int), 6, 143, 0, 0)
set_option maxRecDepth 40000 in
theorem cd_X10_weakest : Cond.code (am_y mX10_weakest) (am_c mX10_weakest) (am_l mX10_weakest) (am_r mX10_weakest) ∈ am_T := am_in (List.mem_of_getElem? (i := 946) rfl) rfl
theorem im_X10_weakest : Cond.instanceMethod (am_y mX10_weakest) ∈ am_T := am_in (List.mem_of_getElem? (i := 944) (by decide +kernel)) rfl
def mX10_copy : am_M := (yX10_copy, cX10_copy, 3, none, 0, 0, 0, 0)
set_option maxRecDepth 40000 in
theorem cd_X10_copy : Cond.code (am_y mX10_copy) (am_c mX10_copy) (am_l mX10_copy) (am_r mX10_copy) ∈ am_T := am_in (List.mem_of_getElem? (i := 961) rfl) rfl
theorem st_X10_copy : Cond.static (am_y mX10_copy) ∈ am_T := am_in (List.mem_of_getElem? (i := 960) (by decide +kernel)) rfl
def mX10_ones : am_M := (yX10_ones, cX10_ones, 3, (some .int), 0, 0, 0, 0)
set_option maxRecDepth 40000 in
theorem cd_X10_ones : Cond.code (am_y mX10_ones) (am_c mX10_ones) (am_l mX10_ones) (am_r mX10_ones) ∈ am_T := am_in (List.mem_of_getElem? (i := 968) rfl) rfl
theorem st_X10_ones : Cond.static (am_y mX10_ones) ∈ am_T := am_in (List.mem_of_getElem? (i := 967) (by decide +kernel)) rfl
def mX10_mayBeWalls : am_M := (yX10_mayBeWalls, cX10_mayBeWalls, 4, (some .int), 0, 0, 0, 0)
set_option maxRecDepth 40000 in
theorem cd_X10_mayBeWalls : Cond.code (am_y mX10_mayBeWalls) (am_c mX10_mayBeWalls) (am_l mX10_mayBeWalls) (am_r mX10_mayBeWalls) ∈ am_T := am_in (List.mem_of_getElem? (i := 965) rfl) rfl
theorem im_X10_mayBeWalls : Cond.instanceMethod (am_y mX10_mayBeWalls) ∈ am_T := am_in (List.mem_of_getElem? (i := 964) (by decide +kernel)) rfl
def mX10_walls : am_M := (yX10_walls, cX10_walls, 8, (some .int), 4, 93, 0, 0)
set_option maxRecDepth 40000 in
theorem cd_X10_walls : Cond.code (am_y mX10_walls) (am_c mX10_walls) (am_l mX10_walls) (am_r mX10_walls) ∈ am_T := am_in (List.mem_of_getElem? (i := 958) rfl) rfl
theorem im_X10_walls : Cond.instanceMethod (am_y mX10_walls) ∈ am_T := am_in (List.mem_of_getElem? (i := 956) (by decide +kernel)) rfl
def mX10_holdOf : am_M := (yX10_holdOf, cX10_holdOf, 5, (some .int), 4, 93, 0, 0)
set_option maxRecDepth 40000 in
theorem cd_X10_holdOf : Cond.code (am_y mX10_holdOf) (am_c mX10_holdOf) (am_l mX10_holdOf) (am_r mX10_holdOf) ∈ am_T := am_in (List.mem_of_getElem? (i := 976) rfl) rfl
theorem im_X10_holdOf : Cond.instanceMethod (am_y mX10_holdOf) ∈ am_T := am_in (List.mem_of_getElem? (i := 975) (by decide +kernel)) rfl
def mX10_hold : am_M := (yX10_hold, cX10_hold, 3, (some .int), 5, 117, 0, 0)
set_option maxRecDepth 40000 in
theorem cd_X10_hold : Cond.code (am_y mX10_hold) (am_c mX10_hold) (am_l mX10_hold) (am_r mX10_hold) ∈ am_T := am_in (List.mem_of_getElem? (i := 972) rfl) rfl
theorem im_X10_hold : Cond.instanceMethod (am_y mX10_hold) ∈ am_T := am_in (List.mem_of_getElem? (i := 970) (by decide +kernel)) rfl
def mX10_nose : am_M := (yX10_nose, cX10_nose, 3, (some .int), 2, 46, 0, 0)
set_option maxRecDepth 40000 in
theorem cd_X10_nose : Cond.code (am_y mX10_nose) (am_c mX10_nose) (am_l mX10_nose) (am_r mX10_nose) ∈ am_T := am_in (List.mem_of_getElem? (i := 980) rfl) rfl
theorem im_X10_nose : Cond.instanceMethod (am_y mX10_nose) ∈ am_T := am_in (List.mem_of_getElem? (i := 978) (by decide +kernel)) rfl
def mX10_forget : am_M := (yX10_forget, cX10_forget, 2, (some .int), 0, 0, 0, 0)
set_option maxRecDepth 40000 in
theorem cd_X10_forget : Cond.code (am_y mX10_forget) (am_c mX10_forget) (am_l mX10_forget) (am_r mX10_forget) ∈ am_T := am_in (List.mem_of_getElem? (i := 985) rfl) rfl
theorem im_X10_forget : Cond.instanceMethod (am_y mX10_forget) ∈ am_T := am_in (List.mem_of_getElem? (i := 983) (by decide +kernel)) rfl
def mX10_isSmeltBy : am_M := (yX10_isSmeltBy, cX10_isSmeltBy, 5, (some .boolean), 5, 118, 0, 0)
set_option maxRecDepth 40000 in
theorem cd_X10_isSmeltBy : Cond.code (am_y mX10_isSmeltBy) (am_c mX10_isSmeltBy) (am_l mX10_isSmeltBy) (am_r mX10_isSmeltBy) ∈ am_T := am_in (List.mem_of_getElem? (i := 993) rfl) rfl
theorem im_X10_isSmeltBy : Cond.instanceMethod (am_y mX10_isSmeltBy) ∈ am_T := am_in (List.mem_of_getElem? (i := 992) (by decide +kernel)) rfl
def mX10_unknown : am_M := (yX10_unknown, cX10_unknown, 5, (some .int), 6, 142, 0, 0)
set_option maxRecDepth 40000 in
theorem cd_X10_unknown : Cond.code (am_y mX10_unknown) (am_c mX10_unknown) (am_l mX10_unknown) (am_r mX10_unknown) ∈ am_T := am_in (List.mem_of_getElem? (i := 989) rfl) rfl
theorem im_X10_unknown : Cond.instanceMethod (am_y mX10_unknown) ∈ am_T := am_in (List.mem_of_getElem? (i := 987) (by decide +kernel)) rfl
def mX10_sniff : am_M := (yX10_sniff, cX10_sniff, 7, (some .int), 6, 142, 0, 0)
set_option maxRecDepth 40000 in
theorem cd_X10_sniff : Cond.code (am_y mX10_sniff) (am_c mX10_sniff) (am_l mX10_sniff) (am_r mX10_sniff) ∈ am_T := am_in (List.mem_of_getElem? (i := 997) rfl) rfl
theorem im_X10_sniff : Cond.instanceMethod (am_y mX10_sniff) ∈ am_T := am_in (List.mem_of_getElem? (i := 995) (by decide +kernel)) rfl
def mX10_draw : am_M := (yX10_draw, cX10_draw, 2, (some .int), 0, 0, 0, 0)
set_option maxRecDepth 40000 in
theorem cd_X10_draw : Cond.code (am_y mX10_draw) (am_c mX10_draw) (am_l mX10_draw) (am_r mX10_draw) ∈ am_T := am_in (List.mem_of_getElem? (i := 1006) rfl) rfl
theorem im_X10_draw : Cond.instanceMethod (am_y mX10_draw) ∈ am_T := am_in (List.mem_of_getElem? (i := 1005) (by decide +kernel)) rfl
def mX10_days : am_M := (yX10_days, cX10_days, 9, (some .int), 5, 117, 0, 0)
set_option maxRecDepth 40000 in
theorem cd_X10_days : Cond.code (am_y mX10_days) (am_c mX10_days) (am_l mX10_days) (am_r mX10_days) ∈ am_T := am_in (List.mem_of_getElem? (i := 1001) rfl) rfl
theorem im_X10_days : Cond.instanceMethod (am_y mX10_days) ∈ am_T := am_in (List.mem_of_getElem? (i := 999) (by decide +kernel)) rfl
def mX10_image : am_M := (yX10_image, cX10_image, 1, (some .int), 1, 22, 0, 0)
set_option maxRecDepth 40000 in
theorem cd_X10_image : Cond.code (am_y mX10_image) (am_c mX10_image) (am_l mX10_image) (am_r mX10_image) ∈ am_T := am_in (List.mem_of_getElem? (i := 1014) rfl) rfl
theorem im_X10_image : Cond.instanceMethod (am_y mX10_image) ∈ am_T := am_in (List.mem_of_getElem? (i := 1012) (by decide +kernel)) rfl
def mX10_restore : am_M := (yX10_restore, cX10_restore, 1, (some .int), 1, 22, 0, 0)
set_option maxRecDepth 40000 in
theorem cd_X10_restore : Cond.code (am_y mX10_restore) (am_c mX10_restore) (am_l mX10_restore) (am_r mX10_restore) ∈ am_T := am_in (List.mem_of_getElem? (i := 1018) rfl) rfl
theorem im_X10_restore : Cond.instanceMethod (am_y mX10_restore) ∈ am_T := am_in (List.mem_of_getElem? (i := 1016) (by decide +kernel)) rfl
def mX10_burning : am_M := (yX10_burning, cX10_burning, 3, (some .int), 0, 0, 0, 0)
set_option maxRecDepth 40000 in
theorem cd_X10_burning : Cond.code (am_y mX10_burning) (am_c mX10_burning) (am_l mX10_burning) (am_r mX10_burning) ∈ am_T := am_in (List.mem_of_getElem? (i := 1030) rfl) rfl
theorem im_X10_burning : Cond.instanceMethod (am_y mX10_burning) ∈ am_T := am_in (List.mem_of_getElem? (i := 1029) (by decide +kernel)) rfl
def mX10_somebodys : am_M := (yX10_somebodys, cX10_somebodys, 3, (some .int), 4, 93, 0, 0)
set_option maxRecDepth 40000 in
theorem cd_X10_somebodys : Cond.code (am_y mX10_somebodys) (am_c mX10_somebodys) (am_l mX10_somebodys) (am_r mX10_somebodys) ∈ am_T := am_in (List.mem_of_getElem? (i := 1034) rfl) rfl
theorem im_X10_somebodys : Cond.instanceMethod (am_y mX10_somebodys) ∈ am_T := am_in (List.mem_of_getElem? (i := 1033) (by decide +kernel)) rfl
def mX10_countOf : am_M := (yX10_countOf, cX10_countOf, 2, (some .int), 5, 115, 0, 0)
set_option maxRecDepth 40000 in
theorem cd_X10_countOf : Cond.code (am_y mX10_countOf) (am_c mX10_countOf) (am_l mX10_countOf) (am_r mX10_countOf) ∈ am_T := am_in (List.mem_of_getElem? (i := 1026) rfl) rfl
theorem im_X10_countOf : Cond.instanceMethod (am_y mX10_countOf) ∈ am_T := am_in (List.mem_of_getElem? (i := 1025) (by decide +kernel)) rfl
def mX10_count : am_M := (yX10_count, cX10_count, 2, (some .int), 6, 136, 0, 0)
set_option maxRecDepth 40000 in
theorem cd_X10_count : Cond.code (am_y mX10_count) (am_c mX10_count) (am_l mX10_count) (am_r mX10_count) ∈ am_T := am_in (List.mem_of_getElem? (i := 1022) rfl) rfl
theorem im_X10_count : Cond.instanceMethod (am_y mX10_count) ∈ am_T := am_in (List.mem_of_getElem? (i := 1020) (by decide +kernel)) rfl
def mX10_say : am_M := (yX10_say, cX10_say, 3, none, 0, 0, 0, 0)
set_option maxRecDepth 40000 in
theorem cd_X10_say : Cond.code (am_y mX10_say) (am_c mX10_say) (am_l mX10_say) (am_r mX10_say) ∈ am_T := am_in (List.mem_of_getElem? (i := 1047) rfl) rfl
theorem im_X10_say : Cond.instanceMethod (am_y mX10_say) ∈ am_T := am_in (List.mem_of_getElem? (i := 1046) (by decide +kernel)) rfl
def mX10_sayCell : am_M := (yX10_sayCell, cX10_sayCell, 3, none, 5, 117, 0, 0)
set_option maxRecDepth 40000 in
theorem cd_X10_sayCell : Cond.code (am_y mX10_sayCell) (am_c mX10_sayCell) (am_l mX10_sayCell) (am_r mX10_sayCell) ∈ am_T := am_in (List.mem_of_getElem? (i := 1043) rfl) rfl
theorem im_X10_sayCell : Cond.instanceMethod (am_y mX10_sayCell) ∈ am_T := am_in (List.mem_of_getElem? (i := 1042) (by decide +kernel)) rfl
def mX10_digest : am_M := (yX10_digest, cX10_digest, 3, (some .long), 6, 139, 0, 0)
set_option maxRecDepth 40000 in
theorem cd_X10_digest : Cond.code (am_y mX10_digest) (am_c mX10_digest) (am_l mX10_digest) (am_r mX10_digest) ∈ am_T := am_in (List.mem_of_getElem? (i := 1038) rfl) rfl
theorem im_X10_digest : Cond.instanceMethod (am_y mX10_digest) ∈ am_T := am_in (List.mem_of_getElem? (i := 1036) (by decide +kernel)) rfl
def mJ6_bitCount_0f7a4 : am_M := (yJ6_bitCount_0f7a4, cJ6_bitCount_0f7a4, 1, (some .int), 0, 0, 0, 0)
set_option maxRecDepth 40000 in
theorem cd_J6_bitCount_0f7a4 : Cond.code (am_y mJ6_bitCount_0f7a4) (am_c mJ6_bitCount_0f7a4) (am_l mJ6_bitCount_0f7a4) (am_r mJ6_bitCount_0f7a4) ∈ am_T := am_in (List.mem_of_getElem? (i := 573) rfl) rfl
theorem st_J6_bitCount_0f7a4 : Cond.static (am_y mJ6_bitCount_0f7a4) ∈ am_T := am_in (List.mem_of_getElem? (i := 572) (by decide +kernel)) rfl
def mJ9_max_7cf53 : am_M := (yJ9_max_7cf53, cJ9_max_7cf53, 2, (some .int), 0, 0, 0, 0)
set_option maxRecDepth 40000 in
theorem cd_J9_max_7cf53 : Cond.code (am_y mJ9_max_7cf53) (am_c mJ9_max_7cf53) (am_l mJ9_max_7cf53) (am_r mJ9_max_7cf53) ∈ am_T := am_in (List.mem_of_getElem? (i := 370) rfl) rfl
theorem st_J9_max_7cf53 : Cond.static (am_y mJ9_max_7cf53) ∈ am_T := am_in (List.mem_of_getElem? (i := 369) (by decide +kernel)) rfl
def mJ9_min_7cf53 : am_M := (yJ9_min_7cf53, cJ9_min_7cf53, 2, (some .int), 0, 0, 0, 0)
set_option maxRecDepth 40000 in
theorem cd_J9_min_7cf53 : Cond.code (am_y mJ9_min_7cf53) (am_c mJ9_min_7cf53) (am_l mJ9_min_7cf53) (am_r mJ9_min_7cf53) ∈ am_T := am_in (List.mem_of_getElem? (i := 330) rfl) rfl
theorem st_J9_min_7cf53 : Cond.static (am_y mJ9_min_7cf53) ∈ am_T := am_in (List.mem_of_getElem? (i := 329) (by decide +kernel)) rfl
def mL_law (nm : String) : am_M := (⟨RL, nm, "([I)Z"⟩, cL_law, 4, some .boolean, 10, 388, 600000, 7302250)
