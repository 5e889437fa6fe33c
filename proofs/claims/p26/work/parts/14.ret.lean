theorem mrt_X0_init : mrt MX0_init = none := rfl
theorem mhh_X0_init : mhh MX0_init = [] := rfl
theorem mow_X0_init : mow MX0_init = RX0 := rfl
theorem mnl_X0_init : MX0_init.2.2.1 = 8 := rfl
theorem mrt_X0_holds : mrt MX0_holds = (some .boolean) := rfl
theorem mhh_X0_holds : mhh MX0_holds = [] := rfl
theorem mow_X0_holds : mow MX0_holds = RX0 := rfl
theorem mnl_X0_holds : MX0_holds.2.2.1 = 3 := rfl
theorem mrt_X1_init : mrt MX1_init = none := rfl
theorem mhh_X1_init : mhh MX1_init = [] := rfl
theorem mow_X1_init : mow MX1_init = RX1 := rfl
theorem mnl_X1_init : MX1_init.2.2.1 = 3 := rfl
theorem mrt_X1_forgetShade : mrt MX1_forgetShade = none := rfl
theorem mhh_X1_forgetShade : mhh MX1_forgetShade = [] := rfl
theorem mow_X1_forgetShade : mow MX1_forgetShade = RX1 := rfl
theorem mnl_X1_forgetShade : MX1_forgetShade.2.2.1 = 1 := rfl
theorem mrt_X1_figure : mrt MX1_figure = (some .int) := rfl
theorem mhh_X1_figure : mhh MX1_figure = [] := rfl
theorem mow_X1_figure : mow MX1_figure = RX1 := rfl
theorem mnl_X1_figure : MX1_figure.2.2.1 = 2 := rfl
theorem mrt_X1_areaOf : mrt MX1_areaOf = (some .int) := rfl
theorem mhh_X1_areaOf : mhh MX1_areaOf = [] := rfl
theorem mow_X1_areaOf : mow MX1_areaOf = RX1 := rfl
theorem mnl_X1_areaOf : MX1_areaOf.2.2.1 = 2 := rfl
theorem mrt_X1_givenTo : mrt MX1_givenTo = (some .int) := rfl
theorem mhh_X1_givenTo : mhh MX1_givenTo = [] := rfl
theorem mow_X1_givenTo : mow MX1_givenTo = RX1 := rfl
theorem mnl_X1_givenTo : MX1_givenTo.2.2.1 = 2 := rfl
theorem mrt_X2_asksIn : mrt MX2_asksIn = (some .boolean) := rfl
theorem mhh_X2_asksIn : mhh MX2_asksIn = [] := rfl
theorem mow_X2_asksIn : mow MX2_asksIn = RX2 := rfl
theorem mnl_X2_asksIn : MX2_asksIn.2.2.1 = 2 := rfl
theorem mrt_X1_isShort : mrt MX1_isShort = (some .boolean) := rfl
theorem mhh_X1_isShort : mhh MX1_isShort = [] := rfl
theorem mow_X1_isShort : mow MX1_isShort = RX1 := rfl
theorem mnl_X1_isShort : MX1_isShort.2.2.1 = 2 := rfl
theorem mrt_X3_isCovered : mrt MX3_isCovered = (some .boolean) := rfl
theorem mhh_X3_isCovered : mhh MX3_isCovered = [] := rfl
theorem mow_X3_isCovered : mow MX3_isCovered = RX3 := rfl
theorem mnl_X3_isCovered : MX3_isCovered.2.2.1 = 2 := rfl
theorem mrt_J7_fill_53178 : mrt MJ7_fill_53178 = none := rfl
theorem mhh_J7_fill_53178 : mhh MJ7_fill_53178 = [] := rfl
theorem mow_J7_fill_53178 : mow MJ7_fill_53178 = RJ7 := rfl
theorem mnl_J7_fill_53178 : MJ7_fill_53178.2.2.1 = 4 := rfl
theorem mrt_Jx4a65c_size_8abf5 : mrt MJx4a65c_size_8abf5 = (some .int) := rfl
theorem mhh_Jx4a65c_size_8abf5 : mhh MJx4a65c_size_8abf5 = [] := rfl
theorem mow_Jx4a65c_size_8abf5 : mow MJx4a65c_size_8abf5 = RJx4a65c := rfl
theorem mnl_Jx4a65c_size_8abf5 : MJx4a65c_size_8abf5.2.2.1 = 1 := rfl
theorem mrt_J3_checkIndex_8e157 : mrt MJ3_checkIndex_8e157 = (some .int) := rfl
theorem mhh_J3_checkIndex_8e157 : mhh MJ3_checkIndex_8e157 = [] := rfl
theorem mow_J3_checkIndex_8e157 : mow MJ3_checkIndex_8e157 = RJ3 := rfl
theorem mnl_J3_checkIndex_8e157 : MJ3_checkIndex_8e157.2.2.1 = 3 := rfl
theorem mrt_J15_checkIndex_7cf53 : mrt MJ15_checkIndex_7cf53 = (some .int) := rfl
theorem mhh_J15_checkIndex_7cf53 : mhh MJ15_checkIndex_7cf53 = [] := rfl
theorem mow_J15_checkIndex_7cf53 : mow MJ15_checkIndex_7cf53 = RJ15 := rfl
theorem mnl_J15_checkIndex_7cf53 : MJ15_checkIndex_7cf53.2.2.1 = 2 := rfl
theorem mrt_Jx4a65c_elementData_915e3 : mrt MJx4a65c_elementData_915e3 = (some (.object "java/lang/Object")) := rfl
theorem mhh_Jx4a65c_elementData_915e3 : mhh MJx4a65c_elementData_915e3 = [] := rfl
theorem mow_Jx4a65c_elementData_915e3 : mow MJx4a65c_elementData_915e3 = RJx4a65c := rfl
theorem mnl_Jx4a65c_elementData_915e3 : MJx4a65c_elementData_915e3.2.2.1 = 2 := rfl
theorem mrt_Jx4a65c_get_915e3 : mrt MJx4a65c_get_915e3 = (some (.object "java/lang/Object")) := rfl
theorem mhh_Jx4a65c_get_915e3 : mhh MJx4a65c_get_915e3 = [] := rfl
theorem mow_Jx4a65c_get_915e3 : mow MJx4a65c_get_915e3 = RJx4a65c := rfl
theorem mnl_Jx4a65c_get_915e3 : MJx4a65c_get_915e3.2.2.1 = 2 := rfl
theorem mrt_X1_castRay : mrt MX1_castRay = none := rfl
theorem mhh_X1_castRay : mhh MX1_castRay = [] := rfl
theorem mow_X1_castRay : mow MX1_castRay = RX1 := rfl
theorem mnl_X1_castRay : MX1_castRay.2.2.1 = 9 := rfl
theorem mrt_X1_castFrom : mrt MX1_castFrom = none := rfl
theorem mhh_X1_castFrom : mhh MX1_castFrom = [] := rfl
theorem mow_X1_castFrom : mow MX1_castFrom = RX1 := rfl
theorem mnl_X1_castFrom : MX1_castFrom.2.2.1 = 4 := rfl
theorem mrt_X1_sumUpShade : mrt MX1_sumUpShade = none := rfl
theorem mhh_X1_sumUpShade : mhh MX1_sumUpShade = [] := rfl
theorem mow_X1_sumUpShade : mow MX1_sumUpShade = RX1 := rfl
theorem mnl_X1_sumUpShade : MX1_sumUpShade.2.2.1 = 3 := rfl
theorem mrt_X1_measure : mrt MX1_measure = none := rfl
theorem mhh_X1_measure : mhh MX1_measure = [] := rfl
theorem mow_X1_measure : mow MX1_measure = RX1 := rfl
theorem mnl_X1_measure : MX1_measure.2.2.1 = 4 := rfl
theorem mrt_X2_comesBefore : mrt MX2_comesBefore = (some .boolean) := rfl
theorem mhh_X2_comesBefore : mhh MX2_comesBefore = [] := rfl
theorem mow_X2_comesBefore : mow MX2_comesBefore = RX2 := rfl
theorem mnl_X2_comesBefore : MX2_comesBefore.2.2.1 = 2 := rfl
theorem mrt_X1_askedBefore : mrt MX1_askedBefore = (some .int) := rfl
theorem mhh_X1_askedBefore : mhh MX1_askedBefore = [] := rfl
theorem mow_X1_askedBefore : mow MX1_askedBefore = RX1 := rfl
theorem mnl_X1_askedBefore : MX1_askedBefore.2.2.1 = 6 := rfl
theorem mrt_X1_allot : mrt MX1_allot = none := rfl
theorem mhh_X1_allot : mhh MX1_allot = [] := rfl
theorem mow_X1_allot : mow MX1_allot = RX1 := rfl
theorem mnl_X1_allot : MX1_allot.2.2.1 = 5 := rfl
theorem mrt_X2_init : mrt MX2_init = none := rfl
theorem mhh_X2_init : mhh MX2_init = [] := rfl
theorem mow_X2_init : mow MX2_init = RX2 := rfl
theorem mnl_X2_init : MX2_init.2.2.1 = 8 := rfl
theorem mrt_X2_hourCount : mrt MX2_hourCount = (some .int) := rfl
theorem mhh_X2_hourCount : mhh MX2_hourCount = [] := rfl
theorem mow_X2_hourCount : mow MX2_hourCount = RX2 := rfl
theorem mnl_X2_hourCount : MX2_hourCount.2.2.1 = 1 := rfl
theorem mrt_Jxa1e45_init_da8c8 : mrt MJxa1e45_init_da8c8 = none := rfl
theorem mhh_Jxa1e45_init_da8c8 : mhh MJxa1e45_init_da8c8 = [] := rfl
theorem mow_Jxa1e45_init_da8c8 : mow MJxa1e45_init_da8c8 = RJxa1e45 := rfl
theorem mnl_Jxa1e45_init_da8c8 : MJxa1e45_init_da8c8.2.2.1 = 1 := rfl
theorem mrt_Jxc12de_init_da8c8 : mrt MJxc12de_init_da8c8 = none := rfl
theorem mhh_Jxc12de_init_da8c8 : mhh MJxc12de_init_da8c8 = [] := rfl
theorem mow_Jxc12de_init_da8c8 : mow MJxc12de_init_da8c8 = RJxc12de := rfl
theorem mnl_Jxc12de_init_da8c8 : MJxc12de_init_da8c8.2.2.1 = 1 := rfl
theorem mrt_Jx4a65c_init_da8c8 : mrt MJx4a65c_init_da8c8 = none := rfl
theorem mhh_Jx4a65c_init_da8c8 : mhh MJx4a65c_init_da8c8 = [] := rfl
theorem mow_Jx4a65c_init_da8c8 : mow MJx4a65c_init_da8c8 = RJx4a65c := rfl
theorem mnl_Jx4a65c_init_da8c8 : MJx4a65c_init_da8c8.2.2.1 = 1 := rfl
theorem mrt_X3_init : mrt MX3_init = none := rfl
theorem mhh_X3_init : mhh MX3_init = [] := rfl
theorem mow_X3_init : mow MX3_init = RX3 := rfl
theorem mnl_X3_init : MX3_init.2.2.1 = 1 := rfl
theorem mrt_X3_isFree : mrt MX3_isFree = (some .boolean) := rfl
theorem mhh_X3_isFree : mhh MX3_isFree = [] := rfl
theorem mow_X3_isFree : mow MX3_isFree = RX3 := rfl
theorem mnl_X3_isFree : MX3_isFree.2.2.1 = 4 := rfl
theorem mrt_X3_setCovered : mrt MX3_setCovered = none := rfl
theorem mhh_X3_setCovered : mhh MX3_setCovered = [] := rfl
theorem mow_X3_setCovered : mow MX3_setCovered = RX3 := rfl
theorem mnl_X3_setCovered : MX3_setCovered.2.2.1 = 6 := rfl
theorem mrt_X3_ownerOf : mrt MX3_ownerOf = (some .int) := rfl
theorem mhh_X3_ownerOf : mhh MX3_ownerOf = [] := rfl
theorem mow_X3_ownerOf : mow MX3_ownerOf = RX3 := rfl
theorem mnl_X3_ownerOf : MX3_ownerOf.2.2.1 = 2 := rfl
theorem mrt_X3_standing : mrt MX3_standing = (some .int) := rfl
theorem mhh_X3_standing : mhh MX3_standing = [] := rfl
theorem mow_X3_standing : mow MX3_standing = RX3 := rfl
theorem mnl_X3_standing : MX3_standing.2.2.1 = 3 := rfl
theorem mrt_X3_coveredCells : mrt MX3_coveredCells = (some .int) := rfl
theorem mhh_X3_coveredCells : mhh MX3_coveredCells = [] := rfl
theorem mow_X3_coveredCells : mow MX3_coveredCells = RX3 := rfl
theorem mnl_X3_coveredCells : MX3_coveredCells.2.2.1 = 4 := rfl
theorem mrt_J8_hugeLength_7cf53 : mrt MJ8_hugeLength_7cf53 = (some .int) := rfl
theorem mhh_J8_hugeLength_7cf53 : mhh MJ8_hugeLength_7cf53 = [] := rfl
theorem mow_J8_hugeLength_7cf53 : mow MJ8_hugeLength_7cf53 = RJ8 := rfl
theorem mnl_J8_hugeLength_7cf53 : MJ8_hugeLength_7cf53.2.2.1 = 3 := rfl
theorem mrt_J8_newLength_cabcc : mrt MJ8_newLength_cabcc = (some .int) := rfl
theorem mhh_J8_newLength_cabcc : mhh MJ8_newLength_cabcc = [] := rfl
theorem mow_J8_newLength_cabcc : mow MJ8_newLength_cabcc = RJ8 := rfl
theorem mnl_J8_newLength_cabcc : MJ8_newLength_cabcc.2.2.1 = 4 := rfl
theorem mrt_J7_copyOf_6403c : mrt MJ7_copyOf_6403c = (some (.array (.object "java/lang/Object"))) := rfl
theorem mhh_J7_copyOf_6403c : mhh MJ7_copyOf_6403c = [] := rfl
theorem mow_J7_copyOf_6403c : mow MJ7_copyOf_6403c = RJ7 := rfl
theorem mnl_J7_copyOf_6403c : MJ7_copyOf_6403c.2.2.1 = 4 := rfl
theorem mrt_J7_copyOf_1904c : mrt MJ7_copyOf_1904c = (some (.array (.object "java/lang/Object"))) := rfl
theorem mhh_J7_copyOf_1904c : mhh MJ7_copyOf_1904c = [] := rfl
theorem mow_J7_copyOf_1904c : mow MJ7_copyOf_1904c = RJ7 := rfl
theorem mnl_J7_copyOf_1904c : MJ7_copyOf_1904c.2.2.1 = 2 := rfl
theorem mrt_Jx4a65c_grow_92f84 : mrt MJx4a65c_grow_92f84 = (some (.array (.object "java/lang/Object"))) := rfl
theorem mhh_Jx4a65c_grow_92f84 : mhh MJx4a65c_grow_92f84 = [] := rfl
theorem mow_Jx4a65c_grow_92f84 : mow MJx4a65c_grow_92f84 = RJx4a65c := rfl
theorem mnl_Jx4a65c_grow_92f84 : MJx4a65c_grow_92f84.2.2.1 = 4 := rfl
theorem mrt_Jx4a65c_grow_d5877 : mrt MJx4a65c_grow_d5877 = (some (.array (.object "java/lang/Object"))) := rfl
theorem mhh_Jx4a65c_grow_d5877 : mhh MJx4a65c_grow_d5877 = [] := rfl
theorem mow_Jx4a65c_grow_d5877 : mow MJx4a65c_grow_d5877 = RJx4a65c := rfl
theorem mnl_Jx4a65c_grow_d5877 : MJx4a65c_grow_d5877.2.2.1 = 1 := rfl
theorem mrt_Jx4a65c_add_72be8 : mrt MJx4a65c_add_72be8 = none := rfl
theorem mhh_Jx4a65c_add_72be8 : mhh MJx4a65c_add_72be8 = [] := rfl
theorem mow_Jx4a65c_add_72be8 : mow MJx4a65c_add_72be8 = RJx4a65c := rfl
theorem mnl_Jx4a65c_add_72be8 : MJx4a65c_add_72be8.2.2.1 = 4 := rfl
theorem mrt_Jx4a65c_add_9ea2d : mrt MJx4a65c_add_9ea2d = (some .boolean) := rfl
theorem mhh_Jx4a65c_add_9ea2d : mhh MJx4a65c_add_9ea2d = [] := rfl
theorem mow_Jx4a65c_add_9ea2d : mow MJx4a65c_add_9ea2d = RJx4a65c := rfl
theorem mnl_Jx4a65c_add_9ea2d : MJx4a65c_add_9ea2d.2.2.1 = 2 := rfl
theorem mrt_X4_init : mrt MX4_init = none := rfl
theorem mhh_X4_init : mhh MX4_init = [] := rfl
theorem mow_X4_init : mow MX4_init = RX4 := rfl
theorem mnl_X4_init : MX4_init.2.2.1 = 3 := rfl
theorem mrt_X4_needArgument : mrt MX4_needArgument = none := rfl
theorem mhh_X4_needArgument : mhh MX4_needArgument = [] := rfl
theorem mow_X4_needArgument : mow MX4_needArgument = RX4 := rfl
theorem mnl_X4_needArgument : MX4_needArgument.2.2.1 = 3 := rfl
theorem mrt_X4_forgetShades : mrt MX4_forgetShades = none := rfl
theorem mhh_X4_forgetShades : mhh MX4_forgetShades = [] := rfl
theorem mow_X4_forgetShades : mow MX4_forgetShades = RX4 := rfl
theorem mnl_X4_forgetShades : MX4_forgetShades.2.2.1 = 2 := rfl
theorem mrt_X4_build : mrt MX4_build = (some .int) := rfl
theorem mhh_X4_build : mhh MX4_build = [] := rfl
theorem mow_X4_build : mow MX4_build = RX4 := rfl
theorem mnl_X4_build : MX4_build.2.2.1 = 9 := rfl
theorem mrt_X4_needIndex : mrt MX4_needIndex = none := rfl
theorem mhh_X4_needIndex : mhh MX4_needIndex = [] := rfl
theorem mow_X4_needIndex : mow MX4_needIndex = RX4 := rfl
theorem mnl_X4_needIndex : MX4_needIndex.2.2.1 = 2 := rfl
theorem mrt_X4_buildingAt : mrt MX4_buildingAt = (some (.object "ShadowLeases$Building")) := rfl
theorem mhh_X4_buildingAt : mhh MX4_buildingAt = [] := rfl
theorem mow_X4_buildingAt : mow MX4_buildingAt = RX4 := rfl
theorem mnl_X4_buildingAt : MX4_buildingAt.2.2.1 = 2 := rfl
theorem mrt_X4_standingBuilding : mrt MX4_standingBuilding = (some (.object "ShadowLeases$Building")) := rfl
theorem mhh_X4_standingBuilding : mhh MX4_standingBuilding = [] := rfl
theorem mow_X4_standingBuilding : mow MX4_standingBuilding = RX4 := rfl
theorem mnl_X4_standingBuilding : MX4_standingBuilding.2.2.1 = 3 := rfl
theorem mrt_X4_changeHeight : mrt MX4_changeHeight = none := rfl
theorem mhh_X4_changeHeight : mhh MX4_changeHeight = [] := rfl
theorem mow_X4_changeHeight : mow MX4_changeHeight = RX4 := rfl
theorem mnl_X4_changeHeight : MX4_changeHeight.2.2.1 = 3 := rfl
theorem mrt_X4_raise : mrt MX4_raise = (some .int) := rfl
theorem mhh_X4_raise : mhh MX4_raise = [] := rfl
theorem mow_X4_raise : mow MX4_raise = RX4 := rfl
theorem mnl_X4_raise : MX4_raise.2.2.1 = 5 := rfl
theorem mrt_X4_hourAt : mrt MX4_hourAt = (some (.object "ShadowLeases$Hour")) := rfl
theorem mhh_X4_hourAt : mhh MX4_hourAt = [] := rfl
theorem mow_X4_hourAt : mow MX4_hourAt = RX4 := rfl
theorem mnl_X4_hourAt : MX4_hourAt.2.2.1 = 2 := rfl
theorem mrt_X4_setSun : mrt MX4_setSun = (some .int) := rfl
theorem mhh_X4_setSun : mhh MX4_setSun = [] := rfl
theorem mow_X4_setSun : mow MX4_setSun = RX4 := rfl
theorem mnl_X4_setSun : MX4_setSun.2.2.1 = 7 := rfl
theorem mrt_X4_measuredHour : mrt MX4_measuredHour = (some (.object "ShadowLeases$Hour")) := rfl
theorem mhh_X4_measuredHour : mhh MX4_measuredHour = [] := rfl
theorem mow_X4_measuredHour : mow MX4_measuredHour = RX4 := rfl
theorem mnl_X4_measuredHour : MX4_measuredHour.2.2.1 = 3 := rfl
theorem mrt_X4_shade : mrt MX4_shade = (some .int) := rfl
theorem mhh_X4_shade : mhh MX4_shade = [] := rfl
theorem mow_X4_shade : mow MX4_shade = RX4 := rfl
theorem mnl_X4_shade : MX4_shade.2.2.1 = 4 := rfl
theorem mrt_X4_shades : mrt MX4_shades = (some .int) := rfl
theorem mhh_X4_shades : mhh MX4_shades = [] := rfl
theorem mow_X4_shades : mow MX4_shades = RX4 := rfl
theorem mnl_X4_shades : MX4_shades.2.2.1 = 4 := rfl
theorem mrt_X4_area : mrt MX4_area = (some .int) := rfl
theorem mhh_X4_area : mhh MX4_area = [] := rfl
theorem mow_X4_area : mow MX4_area = RX4 := rfl
theorem mnl_X4_area : MX4_area.2.2.1 = 3 := rfl
theorem mrt_X4_allottedHour : mrt MX4_allottedHour = (some (.object "ShadowLeases$Hour")) := rfl
theorem mhh_X4_allottedHour : mhh MX4_allottedHour = [] := rfl
theorem mow_X4_allottedHour : mow MX4_allottedHour = RX4 := rfl
theorem mnl_X4_allottedHour : MX4_allottedHour.2.2.1 = 3 := rfl
theorem mrt_X4_inHour : mrt MX4_inHour = (some .int) := rfl
theorem mhh_X4_inHour : mhh MX4_inHour = [] := rfl
theorem mow_X4_inHour : mow MX4_inHour = RX4 := rfl
theorem mnl_X4_inHour : MX4_inHour.2.2.1 = 3 := rfl
theorem mrt_X4_forgetAllotments : mrt MX4_forgetAllotments = none := rfl
theorem mhh_X4_forgetAllotments : mhh MX4_forgetAllotments = [] := rfl
theorem mow_X4_forgetAllotments : mow MX4_forgetAllotments = RX4 := rfl
theorem mnl_X4_forgetAllotments : MX4_forgetAllotments.2.2.1 = 2 := rfl
theorem mrt_X4_let : mrt MX4_let = (some .int) := rfl
theorem mhh_X4_let : mhh MX4_let = [] := rfl
theorem mow_X4_let : mow MX4_let = RX4 := rfl
theorem mnl_X4_let : MX4_let.2.2.1 = 8 := rfl
theorem mrt_X4_leaseAt : mrt MX4_leaseAt = (some (.object "ShadowLeases$Lease")) := rfl
theorem mhh_X4_leaseAt : mhh MX4_leaseAt = [] := rfl
theorem mow_X4_leaseAt : mow MX4_leaseAt = RX4 := rfl
theorem mnl_X4_leaseAt : MX4_leaseAt.2.2.1 = 2 := rfl
theorem mrt_X4_shortHours : mrt MX4_shortHours = (some .int) := rfl
theorem mhh_X4_shortHours : mhh MX4_shortHours = [] := rfl
theorem mow_X4_shortHours : mow MX4_shortHours = RX4 := rfl
theorem mnl_X4_shortHours : MX4_shortHours.2.2.1 = 4 := rfl
theorem mrt_X4_lease : mrt MX4_lease = (some .int) := rfl
theorem mhh_X4_lease : mhh MX4_lease = [] := rfl
theorem mow_X4_lease : mow MX4_lease = RX4 := rfl
theorem mnl_X4_lease : MX4_lease.2.2.1 = 4 := rfl
theorem mrt_X4_gets : mrt MX4_gets = (some .int) := rfl
theorem mhh_X4_gets : mhh MX4_gets = [] := rfl
theorem mow_X4_gets : mow MX4_gets = RX4 := rfl
theorem mnl_X4_gets : MX4_gets.2.2.1 = 3 := rfl
theorem mrt_X4_payFor : mrt MX4_payFor = none := rfl
theorem mhh_X4_payFor : mhh MX4_payFor = [] := rfl
theorem mow_X4_payFor : mow MX4_payFor = RX4 := rfl
theorem mnl_X4_payFor : MX4_payFor.2.2.1 = 6 := rfl
theorem mrt_X4_warn : mrt MX4_warn = none := rfl
theorem mhh_X4_warn : mhh MX4_warn = [] := rfl
theorem mow_X4_warn : mow MX4_warn = RX4 := rfl
theorem mnl_X4_warn : MX4_warn.2.2.1 = 4 := rfl
theorem mrt_X4_evict : mrt MX4_evict = none := rfl
theorem mhh_X4_evict : mhh MX4_evict = [] := rfl
theorem mow_X4_evict : mow MX4_evict = RX4 := rfl
theorem mnl_X4_evict : MX4_evict.2.2.1 = 3 := rfl
theorem mrt_X4_pass : mrt MX4_pass = (some .int) := rfl
theorem mhh_X4_pass : mhh MX4_pass = [] := rfl
theorem mow_X4_pass : mow MX4_pass = RX4 := rfl
theorem mnl_X4_pass : MX4_pass.2.2.1 = 5 := rfl
theorem mrt_X4_standingLeases : mrt MX4_standingLeases = (some .int) := rfl
theorem mhh_X4_standingLeases : mhh MX4_standingLeases = [] := rfl
theorem mow_X4_standingLeases : mow MX4_standingLeases = RX4 := rfl
theorem mnl_X4_standingLeases : MX4_standingLeases.2.2.1 = 3 := rfl
theorem mrt_X4_paidByAll : mrt MX4_paidByAll = (some .int) := rfl
theorem mhh_X4_paidByAll : mhh MX4_paidByAll = [] := rfl
theorem mow_X4_paidByAll : mow MX4_paidByAll = RX4 := rfl
theorem mnl_X4_paidByAll : MX4_paidByAll.2.2.1 = 3 := rfl
theorem mrt_X4_count : mrt MX4_count = (some .int) := rfl
theorem mhh_X4_count : mhh MX4_count = [] := rfl
theorem mow_X4_count : mow MX4_count = RX4 := rfl
theorem mnl_X4_count : MX4_count.2.2.1 = 2 := rfl
theorem mrt_X4_got : mrt MX4_got = (some .int) := rfl
theorem mhh_X4_got : mhh MX4_got = [] := rfl
theorem mow_X4_got : mow MX4_got = RX4 := rfl
theorem mnl_X4_got : MX4_got.2.2.1 = 2 := rfl
theorem mrt_X4_paid : mrt MX4_paid = (some .int) := rfl
theorem mhh_X4_paid : mhh MX4_paid = [] := rfl
theorem mow_X4_paid : mow MX4_paid = RX4 := rfl
theorem mnl_X4_paid : MX4_paid.2.2.1 = 2 := rfl
theorem mrt_X4_fulfilled : mrt MX4_fulfilled = (some .double) := rfl
theorem mhh_X4_fulfilled : mhh MX4_fulfilled = [] := rfl
theorem mow_X4_fulfilled : mow MX4_fulfilled = RX4 := rfl
theorem mnl_X4_fulfilled : MX4_fulfilled.2.2.1 = 5 := rfl
theorem mrt_X5_cast : mrt MX5_cast = none := rfl
theorem mhh_X5_cast : mhh MX5_cast = [] := rfl
theorem mow_X5_cast : mow MX5_cast = RX5 := rfl
theorem mnl_X5_cast : MX5_cast.2.2.1 = 11 := rfl
theorem mrt_X5_init : mrt MX5_init = none := rfl
theorem mhh_X5_init : mhh MX5_init = [] := rfl
theorem mow_X5_init : mow MX5_init = RX5 := rfl
theorem mnl_X5_init : MX5_init.2.2.1 = 2 := rfl
theorem mrt_X5_more : mrt MX5_more = (some (.array (.array .int))) := rfl
theorem mhh_X5_more : mhh MX5_more = [] := rfl
theorem mow_X5_more : mow MX5_more = RX5 := rfl
theorem mnl_X5_more : MX5_more.2.2.1 = 4 := rfl
theorem mrt_J9_max_7cf53 : mrt MJ9_max_7cf53 = (some .int) := rfl
theorem mhh_J9_max_7cf53 : mhh MJ9_max_7cf53 = [] := rfl
theorem mow_J9_max_7cf53 : mow MJ9_max_7cf53 = RJ9 := rfl
theorem mnl_J9_max_7cf53 : MJ9_max_7cf53.2.2.1 = 2 := rfl
theorem mrt_J9_min_7cf53 : mrt MJ9_min_7cf53 = (some .int) := rfl
theorem mhh_J9_min_7cf53 : mhh MJ9_min_7cf53 = [] := rfl
theorem mow_J9_min_7cf53 : mow MJ9_min_7cf53 = RJ9 := rfl
theorem mnl_J9_min_7cf53 : MJ9_min_7cf53.2.2.1 = 2 := rfl
theorem mrt_L_below : mrt ML_below = (some .int) := rfl
theorem mhh_L_below : mhh ML_below = [] := rfl
theorem mow_L_below : mow ML_below = RL := rfl
theorem mnl_L_below : ML_below.2.2.1 = 2 := rfl
theorem mrt_L_cell : mrt ML_cell = (some .int) := rfl
theorem mhh_L_cell : mhh ML_cell = [] := rfl
theorem mow_L_cell : mow ML_cell = RL := rfl
theorem mnl_L_cell : ML_cell.2.2.1 = 2 := rfl
theorem mrt_L_build : mrt ML_build = (some (.object "ShadowLeasesLaw$Sim")) := rfl
theorem mhh_L_build : mhh ML_build = [] := rfl
theorem mow_L_build : mow ML_build = RL := rfl
theorem mnl_L_build : ML_build.2.2.1 = 15 := rfl
theorem mrt_L_law : mrt ML_law = some .boolean := rfl
theorem mhh_L_law : mhh ML_law = [] := rfl
theorem mow_L_law : mow ML_law = RL := rfl
theorem mnl_L_law : ML_law.2.2.1 = 24 := rfl
theorem ycl_X0_init : yX0_init.cls = RX0 := rfl
theorem ycl_X0_holds : yX0_holds.cls = RX0 := rfl
theorem ycl_X1_init : yX1_init.cls = RX1 := rfl
theorem ycl_X1_forgetShade : yX1_forgetShade.cls = RX1 := rfl
theorem ycl_X1_figure : yX1_figure.cls = RX1 := rfl
theorem ycl_X1_areaOf : yX1_areaOf.cls = RX1 := rfl
theorem ycl_X1_givenTo : yX1_givenTo.cls = RX1 := rfl
theorem ycl_X1_isShort : yX1_isShort.cls = RX1 := rfl
theorem ycl_X1_measure : yX1_measure.cls = RX1 := rfl
theorem ycl_X1_castFrom : yX1_castFrom.cls = RX1 := rfl
theorem ycl_X1_castRay : yX1_castRay.cls = RX1 := rfl
theorem ycl_X1_sumUpShade : yX1_sumUpShade.cls = RX1 := rfl
theorem ycl_X1_allot : yX1_allot.cls = RX1 := rfl
theorem ycl_X1_askedBefore : yX1_askedBefore.cls = RX1 := rfl
theorem ycl_X2_init : yX2_init.cls = RX2 := rfl
theorem ycl_X2_hourCount : yX2_hourCount.cls = RX2 := rfl
theorem ycl_X2_asksIn : yX2_asksIn.cls = RX2 := rfl
theorem ycl_X2_comesBefore : yX2_comesBefore.cls = RX2 := rfl
theorem ycl_X3_init : yX3_init.cls = RX3 := rfl
theorem ycl_X3_isCovered : yX3_isCovered.cls = RX3 := rfl
theorem ycl_X3_isFree : yX3_isFree.cls = RX3 := rfl
theorem ycl_X3_setCovered : yX3_setCovered.cls = RX3 := rfl
theorem ycl_X3_ownerOf : yX3_ownerOf.cls = RX3 := rfl
theorem ycl_X3_standing : yX3_standing.cls = RX3 := rfl
theorem ycl_X3_coveredCells : yX3_coveredCells.cls = RX3 := rfl
theorem ycl_X4_init : yX4_init.cls = RX4 := rfl
theorem ycl_X4_build : yX4_build.cls = RX4 := rfl
theorem ycl_X4_raise : yX4_raise.cls = RX4 := rfl
theorem ycl_X4_setSun : yX4_setSun.cls = RX4 := rfl
theorem ycl_X4_shade : yX4_shade.cls = RX4 := rfl
theorem ycl_X4_shades : yX4_shades.cls = RX4 := rfl
theorem ycl_X4_area : yX4_area.cls = RX4 := rfl
theorem ycl_X4_inHour : yX4_inHour.cls = RX4 := rfl
theorem ycl_X4_let : yX4_let.cls = RX4 := rfl
theorem ycl_X4_lease : yX4_lease.cls = RX4 := rfl
theorem ycl_X4_gets : yX4_gets.cls = RX4 := rfl
theorem ycl_X4_pass : yX4_pass.cls = RX4 := rfl
theorem ycl_X4_count : yX4_count.cls = RX4 := rfl
theorem ycl_X4_got : yX4_got.cls = RX4 := rfl
theorem ycl_X4_paid : yX4_paid.cls = RX4 := rfl
theorem ycl_X4_fulfilled : yX4_fulfilled.cls = RX4 := rfl
theorem ycl_X4_needIndex : yX4_needIndex.cls = RX4 := rfl
theorem ycl_X4_needArgument : yX4_needArgument.cls = RX4 := rfl
theorem ycl_X4_buildingAt : yX4_buildingAt.cls = RX4 := rfl
theorem ycl_X4_standingBuilding : yX4_standingBuilding.cls = RX4 := rfl
theorem ycl_X4_leaseAt : yX4_leaseAt.cls = RX4 := rfl
theorem ycl_X4_hourAt : yX4_hourAt.cls = RX4 := rfl
theorem ycl_X4_measuredHour : yX4_measuredHour.cls = RX4 := rfl
theorem ycl_X4_allottedHour : yX4_allottedHour.cls = RX4 := rfl
theorem ycl_X4_forgetShades : yX4_forgetShades.cls = RX4 := rfl
theorem ycl_X4_forgetAllotments : yX4_forgetAllotments.cls = RX4 := rfl
theorem ycl_X4_changeHeight : yX4_changeHeight.cls = RX4 := rfl
theorem ycl_X4_standingLeases : yX4_standingLeases.cls = RX4 := rfl
theorem ycl_X4_paidByAll : yX4_paidByAll.cls = RX4 := rfl
theorem ycl_X4_shortHours : yX4_shortHours.cls = RX4 := rfl
theorem ycl_X4_payFor : yX4_payFor.cls = RX4 := rfl
theorem ycl_X4_warn : yX4_warn.cls = RX4 := rfl
theorem ycl_X4_evict : yX4_evict.cls = RX4 := rfl
theorem ycl_X5_init : yX5_init.cls = RX5 := rfl
theorem ycl_X5_more : yX5_more.cls = RX5 := rfl
theorem ycl_X5_cast : yX5_cast.cls = RX5 := rfl
theorem ycl_J9_max_7cf53 : yJ9_max_7cf53.cls = RJ9 := rfl
theorem ycl_J9_min_7cf53 : yJ9_min_7cf53.cls = RJ9 := rfl
theorem ycl_Jxa1e45_init_da8c8 : yJxa1e45_init_da8c8.cls = RJxa1e45 := rfl
theorem ycl_Jxc12de_init_da8c8 : yJxc12de_init_da8c8.cls = RJxc12de := rfl
theorem ycl_Jx4a65c_init_da8c8 : yJx4a65c_init_da8c8.cls = RJx4a65c := rfl
theorem ycl_Jx4a65c_grow_92f84 : yJx4a65c_grow_92f84.cls = RJx4a65c := rfl
theorem ycl_Jx4a65c_grow_d5877 : yJx4a65c_grow_d5877.cls = RJx4a65c := rfl
theorem ycl_Jx4a65c_size_8abf5 : yJx4a65c_size_8abf5.cls = RJx4a65c := rfl
theorem ycl_Jx4a65c_elementData_915e3 : yJx4a65c_elementData_915e3.cls = RJx4a65c := rfl
theorem ycl_Jx4a65c_get_915e3 : yJx4a65c_get_915e3.cls = RJx4a65c := rfl
theorem ycl_Jx4a65c_add_72be8 : yJx4a65c_add_72be8.cls = RJx4a65c := rfl
theorem ycl_Jx4a65c_add_9ea2d : yJx4a65c_add_9ea2d.cls = RJx4a65c := rfl
theorem ycl_J7_fill_53178 : yJ7_fill_53178.cls = RJ7 := rfl
theorem ycl_J7_copyOf_1904c : yJ7_copyOf_1904c.cls = RJ7 := rfl
theorem ycl_J7_copyOf_6403c : yJ7_copyOf_6403c.cls = RJ7 := rfl
theorem ycl_J15_checkIndex_7cf53 : yJ15_checkIndex_7cf53.cls = RJ15 := rfl
theorem ycl_J8_newLength_cabcc : yJ8_newLength_cabcc.cls = RJ8 := rfl
theorem ycl_J8_hugeLength_7cf53 : yJ8_hugeLength_7cf53.cls = RJ8 := rfl
theorem ycl_J3_checkIndex_8e157 : yJ3_checkIndex_8e157.cls = RJ3 := rfl
theorem ycl_L_below : yL_below.cls = RL := rfl
theorem ycl_L_cell : yL_cell.cls = RL := rfl
theorem ycl_L_build : yL_build.cls = RL := rfl
theorem ycl_L_law : yL_law.cls = RL := rfl
theorem env_nil {G : GT} {M : MI} (h : mhh M = []) : EnvOK G M [] := ⟨fun r hr => (by rw [h] at hr; exact absurd hr List.not_mem_nil), fun _ h => absurd h List.not_mem_nil⟩
theorem nmOf_0 : nmOf 0 = RJx4a65c := rfl
theorem nmOf_1 : nmOf 1 = RX0 := rfl
theorem nmOf_2 : nmOf 2 = RX1 := rfl
theorem nmOf_3 : nmOf 3 = RX2 := rfl
theorem nmOf_4 : nmOf 4 = RX3 := rfl
theorem nmOf_5 : nmOf 5 = RX4 := rfl
theorem nmOf_6 : nmOf 6 = RX5 := rfl
theorem nmOf_50 : nmOf 50 = "java/lang/IllegalStateException" := rfl
theorem nmOf_51 : nmOf 51 = "java/lang/IllegalArgumentException" := rfl
theorem nmOf_52 : nmOf 52 = "java/lang/IndexOutOfBoundsException" := rfl
/-! rows that walk -/
theorem gI_0 {x : Int32} {t : Ls} {f : Int32 → Prop} : gI (some (.int x) :: t) 0 f = f x := rfl
theorem gI_S {o : Option Value} {t : Ls} {n : Nat} {f : Int32 → Prop} : gI (o :: t) (n + 1) f = gI t n f := rfl
theorem gL_0 {x : Int64} {t : Ls} {f : Int64 → Prop} : gL (some (.long x) :: t) 0 f = f x := rfl
theorem gL_S {o : Option Value} {t : Ls} {n : Nat} {f : Int64 → Prop} : gL (o :: t) (n + 1) f = gL t n f := rfl
theorem gD_0 {x : UInt64} {t : Ls} {f : UInt64 → Prop} : gD (some (.double x) :: t) 0 f = f x := rfl
theorem gD_S {o : Option Value} {t : Ls} {n : Nat} {f : UInt64 → Prop} : gD (o :: t) (n + 1) f = gD t n f := rfl
theorem gR_0 {x : Nat} {t : Ls} {f : Nat → Prop} : gR (some (.ref x) :: t) 0 f = f x := rfl
theorem gR_S {o : Option Value} {t : Ls} {n : Nat} {f : Nat → Prop} : gR (o :: t) (n + 1) f = gR t n f := rfl
theorem sI_c {x : Int32} {r : List Value} {f : Int32 → List Value → Prop} : sI (.int x :: r) f = f x r := rfl
theorem sL_c {x : Int64} {r : List Value} {f : Int64 → List Value → Prop} : sL (.long x :: r) f = f x r := rfl
theorem sD_c {x : UInt64} {r : List Value} {f : UInt64 → List Value → Prop} : sD (.double x :: r) f = f x r := rfl
theorem sR_c {x : Nat} {r : List Value} {f : Nat → List Value → Prop} : sR (.ref x :: r) f = f x r := rfl
theorem s1_r {x : Nat} {r : List Value} {f : Value → List Value → Prop} : s1 (.ref x :: r) f = f (.ref x) r := rfl
theorem s1_i {x : Int32} {r : List Value} {f : Value → List Value → Prop} : s1 (.int x :: r) f = f (.int x) r := rfl
theorem vR_r {x : Nat} {r : List Value} {f : Option Nat → List Value → Prop} : vR (.ref x :: r) f = f (some x) r := rfl
theorem vR_n {r : List Value} {f : Option Nat → List Value → Prop} : vR (.null :: r) f = f none r := rfl
theorem s0_n {f : Prop} : s0 [] f = f := rfl
theorem sP_u {n : Nat} {st : List Value} {f : List Value → List Value → Prop} : sP n st f = sPa n st [] f := rfl
theorem sPa_0 {st acc : List Value} {f : List Value → List Value → Prop} : sPa 0 st acc f = f acc st := rfl
theorem sPa_S {n : Nat} {v : Value} {st acc : List Value} {f : List Value → List Value → Prop} : sPa (n + 1) (v :: st) acc f = sPa n st (v :: acc) f := rfl
theorem lkC_c {i j : Nat} {ce : CE} {r : List (Nat × CE)} {f : CE → Prop} : lkC ((i, ce) :: r) j f = if j = i then f ce else lkC r j f := by
  unfold lkC
  rw [lkp]
  by_cases h : j = i
  · rw [if_pos h, if_pos h]
  · rw [if_neg h, if_neg h]
theorem stC_s {q : RI} {f : RI → Prop} : stC (some q) f = f q := rfl
theorem cQ_s {K : Nat → Ls → List Value → Hp → Nat × Nat → Prop} {pc : Nat} {ls : Ls} {rest : List Value} {b : Nat × Nat} {v : Value} {h : Hp} : cQ K pc ls rest b (some v) h = K (pc + 3) ls (v :: rest) h b := rfl
theorem cQ_n {K : Nat → Ls → List Value → Hp → Nat × Nat → Prop} {pc : Nat} {ls : Ls} {rest : List Value} {b : Nat × Nat} {h : Hp} : cQ K pc ls rest b none h = K (pc + 3) ls rest h b := rfl
theorem cX_nil {M : MI} {PX : String → Hp → Prop} {K : Nat → Ls → List Value → Hp → Nat × Nat → Prop} {pc : Nat} {ls : Ls} {b : Nat × Nat} {E : String} {h : Hp} (hh : mhh M = []) : cX M PX K pc ls b E h = PX E h := by unfold cX; rw [hh]
section UN
variable {G : GT} {M : MI} {ini : Bool} {d : Nat} {cs : List (Nat × CE)} {P : Option Value → Hp → Prop} {PX : String → Hp → Prop} {stop : List Nat} {Z W : Nat → Ls → List Value → Hp → Nat × Nat → Prop} {K : Nat → Ls → List Value → Hp → Nat × Nat → Prop} {n pc : Nat} {ls : Ls} {st rest As : List Value} {h : Hp} {b : Nat × Nat} {q : RI} {ce : CE} {r : Option Nat} {f : Value → Prop}
theorem wpN_S : wpN G M ini d cs P PX stop Z (n + 1) pc ls st h b = step G M ini d cs P PX pc ls st h b (kN stop Z (wpN G M ini d cs P PX stop Z n)) := rfl
theorem step_u : step G M ini d cs P PX pc ls st h b K = stC (rs M pc) (stF G M ini d cs P PX pc ls st h b K) := rfl
theorem stF_u : stF G M ini d cs P PX pc ls st h b K q = ((lenI q.1 = q.2.1 ∨ lenI q.1 = 0) ∧ stepI G M ini d cs P PX q.1 q.2.2.1 q.2.2.2.1 q.2.2.2.2.1 q.2.2.2.2.2 pc ls st h b K) := rfl
theorem kN_u : kN stop Z W pc ls st h b = if isS stop pc = true then Z pc ls st h b else W pc ls st h b := rfl
theorem callK_u : callK M d PX pc ls h b K ce As rest = (ce.2.2.2.2.1 + 1 ≤ d ∧ ce.2.2.2.2.2.1 ≤ b.1 ∧ ce.2.2.2.2.2.2.1 ≤ b.2 ∧ catS rest ≤ 8 ∧ ce.2.2.2.2.2.2.2 As h (cQ K pc ls rest (b.1 - ce.2.2.2.2.2.1, b.2 - ce.2.2.2.2.2.2.1)) (cX M PX K pc ls (b.1 - ce.2.2.2.2.2.1, b.2 - ce.2.2.2.2.2.2.1))) := rfl
theorem oR_u : oR r f = ∃ a, r = some a ∧ f (.ref a) := rfl
end UN
/-! the calls of a method -/
theorem env_hh {own : String} {hh : List (Nat × Nat × Nat × Nat)} (h : hh = []) : hhOK own hh := fun r hr => (by rw [h] at hr; exact absurd hr List.not_mem_nil)
theorem env_nil0 {G : GT} {M : MI} (h : hhOK (mow M) (mhh M)) : EnvOK G M [] := ⟨h, fun _ h => absurd h List.not_mem_nil⟩
theorem env_cons {G : GT} {M : MI} {q : Nat × CE} {cs : List (Nat × CE)} (h : ceOK G (mow M) q) (hE : EnvOK G M cs) : EnvOK G M (q :: cs) := ⟨hE.1, fun z hz => (List.mem_cons.mp hz).elim (fun e => by rw [e]; exact h) (hE.2 z)⟩
section CEO
variable {G : GT} {own : String} {j n d mc ms : Nat} {y : MethodName} {M : MI} {ct : Ct}
theorem ceV (hw : ∀ w ∈ [Cond.methodLink own j y, .instanceMethod y, .selects y.cls y y, .initialized y.cls, cwd y M], w ∈ gw) (hd : dsc y n) (hn : M.2.2.1 ≤ 20) (hh : M.2.2.2.2 = []) (ok : OKm G y M d mc ms ct) : ceOK G own (j, (0, y, M, n, d, mc, ms, ct)) :=
  ⟨hw, fun _ => ⟨hd, hn, ok⟩, fun h => (by simp at h), fun h => (by simp at h), fun _ => hh⟩
theorem ceS (hw : ∀ w ∈ [Cond.methodLink own j y, .static y, .initialized y.cls, cwd y M], w ∈ gw) (hd : dsc y n) (hn : M.2.2.1 ≤ 20) (ok : OKm G y M d mc ms ct) : ceOK G own (j, (1, y, M, n, d, mc, ms, ct)) :=
  ⟨hw, fun _ => ⟨hd, hn, ok⟩, fun h => (by simp at h), fun h => (by simp at h), fun h => (by simp at h)⟩
theorem ceI (hw : (∀ w ∈ [Cond.methodLink own j y, .instanceMethod y, .initialized y.cls, cwd y M], w ∈ gw) ∧ y.name = "<init>") (hd : dsc y n) (hn : M.2.2.1 ≤ 20) (hh : M.2.2.2 = (none, [])) (ok : OKm G y M d mc ms ct) : ceOK G own (j, (2, y, M, n, d, mc, ms, ct)) :=
  ⟨hw.1, fun _ => ⟨hd, hn, ok⟩, fun _ => ⟨hw.2, hh⟩, fun h => (by simp at h), fun h => (by simp at h)⟩
theorem ceN (hw : (∀ w ∈ [Cond.instanceMethod y, .initialized y.cls, cwd y M], w ∈ gw) ∧ own = RX4 ∧ j = 11 ∧ y = yX3_init) (hd : dsc y n) (hn : M.2.2.1 ≤ 20) (hh : M.2.2.2 = (none, [])) (ok : OKm G y M d mc ms ct) : ceOK G own (j, (3, y, M, n, d, mc, ms, ct)) :=
  ⟨hw.1, fun _ => ⟨hd, hn, ok⟩, fun h => (by simp at h), fun _ => ⟨hw.2.1, hw.2.2.1, hw.2.2.2, hh⟩, fun h => (by simp at h)⟩
def ce_obj : CE := (4, yX3_init, MX3_init, 0, 0, 0, 0, fun _ _ _ _ => False)
def ce_gc : CE := (5, yX3_init, MX3_init, 0, 0, 0, 0, fun _ _ _ _ => False)
def ce_cp : CE := (6, yX3_init, MX3_init, 0, 0, 0, 0, fun _ _ _ _ => False)
def ce_ci : CE := (7, yX3_init, MX3_init, 0, 0, 0, 0, fun _ _ _ _ => False)
theorem ce_objOK (hw : ∀ w ∈ [Cond.methodLink own j Lib.objectInit, .instanceMethod Lib.objectInit, .code Lib.objectInit ⟨#[0xb1]⟩ 1 none], w ∈ gw) : ceOK G own (j, ce_obj) :=
  ⟨hw, fun h => (by simp [ce_obj] at h), fun h => (by simp [ce_obj] at h), fun h => (by simp [ce_obj] at h), fun h => (by simp [ce_obj] at h)⟩
theorem ce_gcOK (hw : ∀ w ∈ [Cond.methodLink own j ⟨"java/lang/Object", "getClass", "()Ljava/lang/Class;"⟩, .selects "[Ljava/lang/Object;" ⟨"java/lang/Object", "getClass", "()Ljava/lang/Class;"⟩ ⟨"java/lang/Object", "getClass", "()Ljava/lang/Class;"⟩, .instanceMethod ⟨"java/lang/Object", "getClass", "()Ljava/lang/Class;"⟩, .native ⟨"java/lang/Object", "getClass", "()Ljava/lang/Class;"⟩], w ∈ gw) : ceOK G own (j, ce_gc) :=
  ⟨hw, fun h => (by simp [ce_gc] at h), fun h => (by simp [ce_gc] at h), fun h => (by simp [ce_gc] at h), fun h => (by simp [ce_gc] at h)⟩
theorem ce_cpOK (hw : ∀ w ∈ [Cond.methodLink own j arraycopyName, .native arraycopyName, .static arraycopyName, .initialized "java/lang/System"], w ∈ gw) : ceOK G own (j, ce_cp) :=
  ⟨hw, fun h => (by simp [ce_cp] at h), fun h => (by simp [ce_cp] at h), fun h => (by simp [ce_cp] at h), fun h => (by simp [ce_cp] at h)⟩
theorem ce_ciOK (hw : ∀ w ∈ [Cond.methodLink own j arraycopyName, .native arraycopyName, .static arraycopyName, .initialized "java/lang/System"], w ∈ gw) : ceOK G own (j, ce_ci) :=
  ⟨hw, fun h => (by simp [ce_ci] at h), fun h => (by simp [ce_ci] at h), fun h => (by simp [ce_ci] at h), fun h => (by simp [ce_ci] at h)⟩
def ce_max : CE := (8, yX3_init, MX3_init, 0, 0, 0, 0, fun _ _ _ _ => False)
def ce_min : CE := (9, yX3_init, MX3_init, 0, 0, 0, 0, fun _ _ _ _ => False)
theorem ce_maxOK (hw : ∀ w ∈ [Cond.methodLink own j Lib.Math.max.name, .static Lib.Math.max.name, .initialized "java/lang/Math", .code Lib.Math.max.name Lib.Math.max.code 2 (some .int)], w ∈ gw) : ceOK G own (j, ce_max) :=
  ⟨hw, fun h => (by simp [ce_max] at h), fun h => (by simp [ce_max] at h), fun h => (by simp [ce_max] at h), fun h => (by simp [ce_max] at h)⟩
theorem ce_minOK (hw : ∀ w ∈ [Cond.methodLink own j Lib.Math.min.name, .static Lib.Math.min.name, .initialized "java/lang/Math", .code Lib.Math.min.name Lib.Math.min.code 2 (some .int)], w ∈ gw) : ceOK G own (j, ce_min) :=
  ⟨hw, fun h => (by simp [ce_min] at h), fun h => (by simp [ce_min] at h), fun h => (by simp [ce_min] at h), fun h => (by simp [ce_min] at h)⟩
end CEO

