def M_X1_init : zMd := (yX1_init, cX1_init, 1, none, { frames := 1, cells := 1, slots := 10, locals := 20 })
theorem mk_X1_init : zMk M_X1_init 0 := ⟨cd_X1_init, ini_6, ⟨by decide, by decide⟩, by decide +kernel⟩
theorem k_X1_init : zMi M_X1_init 0 := ⟨mk_X1_init, im_X1_init, rfl, rfl⟩
def M_X1_keep : zMd := (yX1_keep, cX1_keep, 2, none, { frames := 2, cells := 5, slots := 439, locals := 80 })
theorem mk_X1_keep : zMk M_X1_keep 1 := ⟨cd_X1_keep, ini_6, ⟨by decide, by decide⟩, by decide +kernel⟩
theorem k_X1_keep : zMv M_X1_keep 1 := ⟨mk_X1_keep, im_X1_keep, se_X1_keep⟩
def M_X1_takeBack : zMd := (yX1_takeBack, cX1_takeBack, 2, none, { frames := 2, cells := 0, slots := 0, locals := 80 })
theorem mk_X1_takeBack : zMk M_X1_takeBack 1 := ⟨cd_X1_takeBack, ini_6, ⟨by decide, by decide⟩, by decide +kernel⟩
theorem k_X1_takeBack : zMv M_X1_takeBack 1 := ⟨mk_X1_takeBack, im_X1_takeBack, se_X1_takeBack⟩
def M_X1_forget : zMd := (yX1_forget, cX1_forget, 1, none, { frames := 0, cells := 0, slots := 0, locals := 0 })
theorem mk_X1_forget : zMk M_X1_forget 0 := ⟨cd_X1_forget, ini_6, ⟨by decide, by decide⟩, by decide +kernel⟩
theorem k_X1_forget : zMv M_X1_forget 0 := ⟨mk_X1_forget, im_X1_forget, se_X1_forget⟩
def M_X2_init : zMd := (yX2_init, cX2_init, 1, none, { frames := 1, cells := 4, slots := 430, locals := 20 })
theorem mk_X2_init : zMk M_X2_init 0 := ⟨cd_X2_init, ini_4, ⟨by decide, by decide⟩, by decide +kernel⟩
theorem k_X2_init : zMi M_X2_init 0 := ⟨mk_X2_init, im_X2_init, rfl, rfl⟩
def M_X2_clear : zMd := (yX2_clear, cX2_clear, 2, none, { frames := 0, cells := 0, slots := 0, locals := 0 })
theorem mk_X2_clear : zMk M_X2_clear 0 := ⟨cd_X2_clear, ini_4, ⟨by decide, by decide⟩, by decide +kernel⟩
theorem k_X2_clear : zMv M_X2_clear 0 := ⟨mk_X2_clear, im_X2_clear, se_X2_clear⟩
def M_X2_copyFrom : zMd := (yX2_copyFrom, cX2_copyFrom, 2, none, { frames := 1, cells := 0, slots := 0, locals := 59 })
theorem mk_X2_copyFrom : zMk M_X2_copyFrom 1 := ⟨cd_X2_copyFrom, ini_4, ⟨by decide, by decide⟩, by decide +kernel⟩
theorem k_X2_copyFrom : zMv M_X2_copyFrom 1 := ⟨mk_X2_copyFrom, im_X2_copyFrom, se_X2_copyFrom⟩
def M_X2_hasOffice : zMd := (yX2_hasOffice, cX2_hasOffice, 2, (some .boolean), { frames := 0, cells := 0, slots := 0, locals := 0 })
theorem mk_X2_hasOffice : zMk M_X2_hasOffice 1 := ⟨cd_X2_hasOffice, ini_4, ⟨by decide, by decide⟩, by decide +kernel⟩
theorem k_X2_hasOffice : zMv M_X2_hasOffice 1 := ⟨mk_X2_hasOffice, im_X2_hasOffice, se_X2_hasOffice⟩
def M_X2_hasItem : zMd := (yX2_hasItem, cX2_hasItem, 2, (some .boolean), { frames := 0, cells := 0, slots := 0, locals := 0 })
theorem mk_X2_hasItem : zMk M_X2_hasItem 1 := ⟨cd_X2_hasItem, ini_4, ⟨by decide, by decide⟩, by decide +kernel⟩
theorem k_X2_hasItem : zMv M_X2_hasItem 1 := ⟨mk_X2_hasItem, im_X2_hasItem, se_X2_hasItem⟩
def M_X2_hasLoss : zMd := (yX2_hasLoss, cX2_hasLoss, 2, (some .boolean), { frames := 0, cells := 0, slots := 0, locals := 0 })
theorem mk_X2_hasLoss : zMk M_X2_hasLoss 1 := ⟨cd_X2_hasLoss, ini_4, ⟨by decide, by decide⟩, by decide +kernel⟩
theorem k_X2_hasLoss : zMv M_X2_hasLoss 1 := ⟨mk_X2_hasLoss, im_X2_hasLoss, se_X2_hasLoss⟩
def M_X2_setRate : zMd := (yX2_setRate, cX2_setRate, 5, none, { frames := 0, cells := 0, slots := 0, locals := 0 })
theorem mk_X2_setRate : zMk M_X2_setRate 3 := ⟨cd_X2_setRate, ini_4, ⟨by decide, by decide⟩, by decide +kernel⟩
theorem k_X2_setRate : zMv M_X2_setRate 3 := ⟨mk_X2_setRate, im_X2_setRate, se_X2_setRate⟩
def M_X2_addItem : zMd := (yX2_addItem, cX2_addItem, 7, (some .int), { frames := 0, cells := 0, slots := 0, locals := 0 })
theorem mk_X2_addItem : zMk M_X2_addItem 5 := ⟨cd_X2_addItem, ini_4, ⟨by decide, by decide⟩, by decide +kernel⟩
theorem k_X2_addItem : zMv M_X2_addItem 5 := ⟨mk_X2_addItem, im_X2_addItem, se_X2_addItem⟩
def M_X2_addLoss : zMd := (yX2_addLoss, cX2_addLoss, 5, (some .int), { frames := 0, cells := 0, slots := 0, locals := 0 })
theorem mk_X2_addLoss : zMk M_X2_addLoss 3 := ⟨cd_X2_addLoss, ini_4, ⟨by decide, by decide⟩, by decide +kernel⟩
theorem k_X2_addLoss : zMv M_X2_addLoss 3 := ⟨mk_X2_addLoss, im_X2_addLoss, se_X2_addLoss⟩
def M_X2_bringForward : zMd := (yX2_bringForward, cX2_bringForward, 4, none, { frames := 0, cells := 0, slots := 0, locals := 0 })
theorem mk_X2_bringForward : zMk M_X2_bringForward 2 := ⟨cd_X2_bringForward, ini_4, ⟨by decide, by decide⟩, by decide +kernel⟩
theorem k_X2_bringForward : zMv M_X2_bringForward 2 := ⟨mk_X2_bringForward, im_X2_bringForward, se_X2_bringForward⟩
def M_X2_isItemOf : zMd := (yX2_isItemOf, cX2_isItemOf, 3, (some .boolean), { frames := 0, cells := 0, slots := 0, locals := 0 })
theorem mk_X2_isItemOf : zMk M_X2_isItemOf 2 := ⟨cd_X2_isItemOf, ini_4, ⟨by decide, by decide⟩, by decide +kernel⟩
theorem k_X2_isItemOf : zMv M_X2_isItemOf 2 := ⟨mk_X2_isItemOf, im_X2_isItemOf, se_X2_isItemOf⟩
def M_X2_isTaxable : zMd := (yX2_isTaxable, cX2_isTaxable, 2, (some .boolean), { frames := 0, cells := 0, slots := 0, locals := 0 })
theorem mk_X2_isTaxable : zMk M_X2_isTaxable 1 := ⟨cd_X2_isTaxable, ini_4, ⟨by decide, by decide⟩, by decide +kernel⟩
theorem k_X2_isTaxable : zMv M_X2_isTaxable 1 := ⟨mk_X2_isTaxable, im_X2_isTaxable, se_X2_isTaxable⟩
def M_X2_lastOf : zMd := (yX2_lastOf, cX2_lastOf, 2, (some .int), { frames := 0, cells := 0, slots := 0, locals := 0 })
theorem mk_X2_lastOf : zMk M_X2_lastOf 1 := ⟨cd_X2_lastOf, ini_4, ⟨by decide, by decide⟩, by decide +kernel⟩
theorem k_X2_lastOf : zMv M_X2_lastOf 1 := ⟨mk_X2_lastOf, im_X2_lastOf, se_X2_lastOf⟩
def M_X2_partsUpTo : zMd := (yX2_partsUpTo, cX2_partsUpTo, 7, (some .int), { frames := 0, cells := 0, slots := 0, locals := 0 })
theorem mk_X2_partsUpTo : zMk M_X2_partsUpTo 2 := ⟨cd_X2_partsUpTo, ini_4, ⟨by decide, by decide⟩, by decide +kernel⟩
theorem k_X2_partsUpTo : zMv M_X2_partsUpTo 2 := ⟨mk_X2_partsUpTo, im_X2_partsUpTo, se_X2_partsUpTo⟩
def M_X2_partOf : zMd := (yX2_partOf, cX2_partOf, 3, (some .int), { frames := 1, cells := 0, slots := 0, locals := 26 })
theorem mk_X2_partOf : zMk M_X2_partOf 2 := ⟨cd_X2_partOf, ini_4, ⟨by decide, by decide⟩, by decide +kernel⟩
theorem k_X2_partOf : zMv M_X2_partOf 2 := ⟨mk_X2_partOf, im_X2_partOf, se_X2_partOf⟩
def M_X2_openOf : zMd := (yX2_openOf, cX2_openOf, 2, (some .int), { frames := 1, cells := 0, slots := 0, locals := 26 })
theorem mk_X2_openOf : zMk M_X2_openOf 1 := ⟨cd_X2_openOf, ini_4, ⟨by decide, by decide⟩, by decide +kernel⟩
theorem k_X2_openOf : zMv M_X2_openOf 1 := ⟨mk_X2_openOf, im_X2_openOf, se_X2_openOf⟩
def M_X2_itemsWithNothingOpen : zMd := (yX2_itemsWithNothingOpen, cX2_itemsWithNothingOpen, 3, (some .int), { frames := 2, cells := 0, slots := 0, locals := 47 })
theorem mk_X2_itemsWithNothingOpen : zMk M_X2_itemsWithNothingOpen 0 := ⟨cd_X2_itemsWithNothingOpen, ini_4, ⟨by decide, by decide⟩, by decide +kernel⟩
theorem k_X2_itemsWithNothingOpen : zMv M_X2_itemsWithNothingOpen 0 := ⟨mk_X2_itemsWithNothingOpen, im_X2_itemsWithNothingOpen, se_X2_itemsWithNothingOpen⟩
def M_X2_leftOf : zMd := (yX2_leftOf, cX2_leftOf, 6, (some .int), { frames := 0, cells := 0, slots := 0, locals := 0 })
theorem mk_X2_leftOf : zMk M_X2_leftOf 3 := ⟨cd_X2_leftOf, ini_4, ⟨by decide, by decide⟩, by decide +kernel⟩
theorem k_X2_leftOf : zMv M_X2_leftOf 3 := ⟨mk_X2_leftOf, im_X2_leftOf, se_X2_leftOf⟩
def M_X2_leftWithLast : zMd := (yX2_leftWithLast, cX2_leftWithLast, 5, (some .int), { frames := 1, cells := 0, slots := 0, locals := 25 })
theorem mk_X2_leftWithLast : zMk M_X2_leftWithLast 2 := ⟨cd_X2_leftWithLast, ini_4, ⟨by decide, by decide⟩, by decide +kernel⟩
theorem k_X2_leftWithLast : zMv M_X2_leftWithLast 2 := ⟨mk_X2_leftWithLast, im_X2_leftWithLast, se_X2_leftWithLast⟩
def M_X2_incomeOf : zMd := (yX2_incomeOf, cX2_incomeOf, 4, (some .int), { frames := 2, cells := 0, slots := 0, locals := 48 })
theorem mk_X2_incomeOf : zMk M_X2_incomeOf 1 := ⟨cd_X2_incomeOf, ini_4, ⟨by decide, by decide⟩, by decide +kernel⟩
theorem k_X2_incomeOf : zMv M_X2_incomeOf 1 := ⟨mk_X2_incomeOf, im_X2_incomeOf, se_X2_incomeOf⟩
def M_X2_settleIncome : zMd := (yX2_settleIncome, cX2_settleIncome, 3, none, { frames := 2, cells := 0, slots := 0, locals := 51 })
theorem mk_X2_settleIncome : zMk M_X2_settleIncome 2 := ⟨cd_X2_settleIncome, ini_4, ⟨by decide, by decide⟩, by decide +kernel⟩
theorem k_X2_settleIncome : zMv M_X2_settleIncome 2 := ⟨mk_X2_settleIncome, im_X2_settleIncome, se_X2_settleIncome⟩
def M_X2_useLosses : zMd := (yX2_useLosses, cX2_useLosses, 7, none, { frames := 1, cells := 0, slots := 0, locals := 25 })
theorem mk_X2_useLosses : zMk M_X2_useLosses 2 := ⟨cd_X2_useLosses, ini_4, ⟨by decide, by decide⟩, by decide +kernel⟩
theorem k_X2_useLosses : zMv M_X2_useLosses 2 := ⟨mk_X2_useLosses, im_X2_useLosses, se_X2_useLosses⟩
def M_X3_init : zMd := (yX3_init, cX3_init, 1, none, { frames := 1, cells := 3, slots := 87, locals := 20 })
theorem mk_X3_init : zMk M_X3_init 0 := ⟨cd_X3_init, ini_21, ⟨by decide, by decide⟩, by decide +kernel⟩
theorem k_X3_init : zMi M_X3_init 0 := ⟨mk_X3_init, im_X3_init, rfl, rfl⟩
def M_X3_fill : zMd := (yX3_fill, cX3_fill, 5, none, { frames := 2, cells := 0, slots := 0, locals := 59 })
theorem mk_X3_fill : zMk M_X3_fill 2 := ⟨cd_X3_fill, ini_21, ⟨by decide, by decide⟩, by decide +kernel⟩
theorem k_X3_fill : zMv M_X3_fill 2 := ⟨mk_X3_fill, im_X3_fill, se_X3_fill⟩
def M_X3_net : zMd := (yX3_net, cX3_net, 1, (some .int), { frames := 0, cells := 0, slots := 0, locals := 0 })
theorem mk_X3_net : zMk M_X3_net 0 := ⟨cd_X3_net, ini_21, ⟨by decide, by decide⟩, by decide +kernel⟩
theorem k_X3_net : zMv M_X3_net 0 := ⟨mk_X3_net, im_X3_net, se_X3_net⟩
def M_X4_init : zMd := (yX4_init, cX4_init, 1, none, { frames := 1, cells := 8, slots := 340, locals := 20 })
theorem mk_X4_init : zMk M_X4_init 0 := ⟨cd_X4_init, ini_5, ⟨by decide, by decide⟩, by decide +kernel⟩
theorem k_X4_init : zMi M_X4_init 0 := ⟨mk_X4_init, im_X4_init, rfl, rfl⟩
def M_X4_workOut : zMd := (yX4_workOut, cX4_workOut, 4, none, { frames := 4, cells := 0, slots := 0, locals := 96 })
theorem mk_X4_workOut : zMk M_X4_workOut 2 := ⟨cd_X4_workOut, ini_5, ⟨by decide, by decide⟩, by decide +kernel⟩
theorem k_X4_workOut : zMv M_X4_workOut 2 := ⟨mk_X4_workOut, im_X4_workOut, se_X4_workOut⟩
def M_X4_addParts : zMd := (yX4_addParts, cX4_addParts, 6, none, { frames := 2, cells := 0, slots := 0, locals := 48 })
theorem mk_X4_addParts : zMk M_X4_addParts 3 := ⟨cd_X4_addParts, ini_5, ⟨by decide, by decide⟩, by decide +kernel⟩
theorem k_X4_addParts : zMv M_X4_addParts 3 := ⟨mk_X4_addParts, im_X4_addParts, se_X4_addParts⟩
def M_X4_spread : zMd := (yX4_spread, cX4_spread, 7, none, { frames := 3, cells := 0, slots := 0, locals := 70 })
theorem mk_X4_spread : zMk M_X4_spread 4 := ⟨cd_X4_spread, ini_5, ⟨by decide, by decide⟩, by decide +kernel⟩
theorem k_X4_spread : zMv M_X4_spread 4 := ⟨mk_X4_spread, im_X4_spread, se_X4_spread⟩
def M_X4_coverYear : zMd := (yX4_coverYear, cX4_coverYear, 5, none, { frames := 2, cells := 0, slots := 0, locals := 46 })
theorem mk_X4_coverYear : zMk M_X4_coverYear 2 := ⟨cd_X4_coverYear, ini_5, ⟨by decide, by decide⟩, by decide +kernel⟩
theorem k_X4_coverYear : zMv M_X4_coverYear 2 := ⟨mk_X4_coverYear, im_X4_coverYear, se_X4_coverYear⟩
def M_X4_useEarliest : zMd := (yX4_useEarliest, cX4_useEarliest, 6, none, { frames := 1, cells := 0, slots := 0, locals := 21 })
theorem mk_X4_useEarliest : zMk M_X4_useEarliest 2 := ⟨cd_X4_useEarliest, ini_5, ⟨by decide, by decide⟩, by decide +kernel⟩
theorem k_X4_useEarliest : zMv M_X4_useEarliest 2 := ⟨mk_X4_useEarliest, im_X4_useEarliest, se_X4_useEarliest⟩
def M_X4_supposeRate : zMd := (yX4_supposeRate, cX4_supposeRate, 4, none, { frames := 0, cells := 0, slots := 0, locals := 0 })
theorem mk_X4_supposeRate : zMk M_X4_supposeRate 2 := ⟨cd_X4_supposeRate, ini_5, ⟨by decide, by decide⟩, by decide +kernel⟩
theorem k_X4_supposeRate : zMv M_X4_supposeRate 2 := ⟨mk_X4_supposeRate, im_X4_supposeRate, se_X4_supposeRate⟩
def M_X4_taxOn : zMd := (yX4_taxOn, cX4_taxOn, 5, (some .int), { frames := 0, cells := 0, slots := 0, locals := 0 })
theorem mk_X4_taxOn : zMk M_X4_taxOn 1 := ⟨cd_X4_taxOn, ini_5, ⟨by decide, by decide⟩, by decide +kernel⟩
theorem k_X4_taxOn : zMv M_X4_taxOn 1 := ⟨mk_X4_taxOn, im_X4_taxOn, se_X4_taxOn⟩
def M_X4_liability : zMd := (yX4_liability, cX4_liability, 1, (some .int), { frames := 1, cells := 0, slots := 0, locals := 24 })
theorem mk_X4_liability : zMk M_X4_liability 0 := ⟨cd_X4_liability, ini_5, ⟨by decide, by decide⟩, by decide +kernel⟩
theorem k_X4_liability : zMv M_X4_liability 0 := ⟨mk_X4_liability, im_X4_liability, se_X4_liability⟩
def M_X4_asset : zMd := (yX4_asset, cX4_asset, 1, (some .int), { frames := 1, cells := 0, slots := 0, locals := 24 })
theorem mk_X4_asset : zMk M_X4_asset 0 := ⟨cd_X4_asset, ini_5, ⟨by decide, by decide⟩, by decide +kernel⟩
theorem k_X4_asset : zMv M_X4_asset 0 := ⟨mk_X4_asset, im_X4_asset, se_X4_asset⟩
def M_X4_net : zMd := (yX4_net, cX4_net, 1, (some .int), { frames := 2, cells := 0, slots := 0, locals := 44 })
theorem mk_X4_net : zMk M_X4_net 0 := ⟨cd_X4_net, ini_5, ⟨by decide, by decide⟩, by decide +kernel⟩
theorem k_X4_net : zMv M_X4_net 0 := ⟨mk_X4_net, im_X4_net, se_X4_net⟩
def M_X4_unrecognised : zMd := (yX4_unrecognised, cX4_unrecognised, 1, (some .int), { frames := 0, cells := 0, slots := 0, locals := 0 })
theorem mk_X4_unrecognised : zMk M_X4_unrecognised 0 := ⟨cd_X4_unrecognised, ini_5, ⟨by decide, by decide⟩, by decide +kernel⟩
theorem k_X4_unrecognised : zMv M_X4_unrecognised 0 := ⟨mk_X4_unrecognised, im_X4_unrecognised, se_X4_unrecognised⟩
def M_X6_init : zMd := (yX6_init, cX6_init, 1, none, { frames := 2, cells := 8, slots := 1085, locals := 40 })
theorem mk_X6_init : zMk M_X6_init 0 := ⟨cd_X6_init, ini_2, ⟨by decide, by decide⟩, by decide +kernel⟩
theorem k_X6_init : zMi M_X6_init 0 := ⟨mk_X6_init, im_X6_init, rfl, rfl⟩
def M_X6_exchange : zMd := (yX6_exchange, cX6_exchange, 3, (some (.object "DeferredDesk$Book")), { frames := 0, cells := 0, slots := 0, locals := 0 })
theorem mk_X6_exchange : zMk M_X6_exchange 1 := ⟨cd_X6_exchange, ini_2, ⟨by decide, by decide⟩, by decide +kernel⟩
theorem k_X6_exchange : zMv M_X6_exchange 1 := ⟨mk_X6_exchange, im_X6_exchange, se_X6_exchange⟩
def M_X6_reads : zMd := (yX6_reads, cX6_reads, 3, (some .boolean), { frames := 6, cells := 0, slots := 0, locals := 128 })
theorem mk_X6_reads : zMk M_X6_reads 0 := ⟨cd_X6_reads, ini_2, ⟨by decide, by decide⟩, by decide +kernel⟩
theorem k_X6_reads : zMv M_X6_reads 0 := ⟨mk_X6_reads, im_X6_reads, se_X6_reads⟩
def M_X6_refuse : zMd := (yX6_refuse, cX6_refuse, 2, (some .boolean), { frames := 0, cells := 0, slots := 0, locals := 0 })
theorem mk_X6_refuse : zMk M_X6_refuse 1 := ⟨cd_X6_refuse, ini_2, ⟨by decide, by decide⟩, by decide +kernel⟩
theorem k_X6_refuse : zMv M_X6_refuse 1 := ⟨mk_X6_refuse, im_X6_refuse, se_X6_refuse⟩
def M_X6_lineThatComes : zMd := (yX6_lineThatComes, cX6_lineThatComes, 2, (some (.object "DeferredDesk$Line")), { frames := 5, cells := 0, slots := 0, locals := 107 })
theorem mk_X6_lineThatComes : zMk M_X6_lineThatComes 0 := ⟨cd_X6_lineThatComes, ini_2, ⟨by decide, by decide⟩, by decide +kernel⟩
theorem k_X6_lineThatComes : zMv M_X6_lineThatComes 0 := ⟨mk_X6_lineThatComes, im_X6_lineThatComes, se_X6_lineThatComes⟩
def M_X6_isWord : zMd := (yX6_isWord, cX6_isWord, 3, (some .boolean), { frames := 4, cells := 0, slots := 0, locals := 85 })
theorem mk_X6_isWord : zMk M_X6_isWord 1 := ⟨cd_X6_isWord, ini_2, ⟨by decide, by decide⟩, by decide +kernel⟩
theorem k_X6_isWord : zMv M_X6_isWord 1 := ⟨mk_X6_isWord, im_X6_isWord, se_X6_isWord⟩
def M_X6_mayCome : zMd := (yX6_mayCome, cX6_mayCome, 2, (some .boolean), { frames := 0, cells := 0, slots := 0, locals := 0 })
theorem mk_X6_mayCome : zMk M_X6_mayCome 1 := ⟨cd_X6_mayCome, ini_2, ⟨by decide, by decide⟩, by decide +kernel⟩
theorem k_X6_mayCome : zMv M_X6_mayCome 1 := ⟨mk_X6_mayCome, im_X6_mayCome, se_X6_mayCome⟩
def M_X6_isOneMore : zMd := (yX6_isOneMore, cX6_isOneMore, 2, (some .boolean), { frames := 0, cells := 0, slots := 0, locals := 0 })
theorem mk_X6_isOneMore : zMk M_X6_isOneMore 1 := ⟨cd_X6_isOneMore, ini_2, ⟨by decide, by decide⟩, by decide +kernel⟩
theorem k_X6_isOneMore : zMv M_X6_isOneMore 1 := ⟨mk_X6_isOneMore, im_X6_isOneMore, se_X6_isOneMore⟩
def M_X6_readsNumbers : zMd := (yX6_readsNumbers, cX6_readsNumbers, 3, (some .boolean), { frames := 4, cells := 0, slots := 0, locals := 85 })
theorem mk_X6_readsNumbers : zMk M_X6_readsNumbers 1 := ⟨cd_X6_readsNumbers, ini_2, ⟨by decide, by decide⟩, by decide +kernel⟩
theorem k_X6_readsNumbers : zMv M_X6_readsNumbers 1 := ⟨mk_X6_readsNumbers, im_X6_readsNumbers, se_X6_readsNumbers⟩
def M_X6_least : zMd := (yX6_least, cX6_least, 2, (some .int), { frames := 0, cells := 0, slots := 0, locals := 0 })
theorem mk_X6_least : zMk M_X6_least 1 := ⟨cd_X6_least, ini_2, ⟨by decide, by decide⟩, by decide +kernel⟩
theorem k_X6_least : zMv M_X6_least 1 := ⟨mk_X6_least, im_X6_least, se_X6_least⟩
def M_X6_most : zMd := (yX6_most, cX6_most, 2, (some .int), { frames := 0, cells := 0, slots := 0, locals := 0 })
theorem mk_X6_most : zMk M_X6_most 1 := ⟨cd_X6_most, ini_2, ⟨by decide, by decide⟩, by decide +kernel⟩
theorem k_X6_most : zMv M_X6_most 1 := ⟨mk_X6_most, im_X6_most, se_X6_most⟩
def M_X6_enter : zMd := (yX6_enter, cX6_enter, 2, none, { frames := 1, cells := 0, slots := 0, locals := 26 })
theorem mk_X6_enter : zMk M_X6_enter 1 := ⟨cd_X6_enter, ini_2, ⟨by decide, by decide⟩, by decide +kernel⟩
theorem k_X6_enter : zMv M_X6_enter 1 := ⟨mk_X6_enter, im_X6_enter, se_X6_enter⟩
def M_X6_advance : zMd := (yX6_advance, cX6_advance, 1, none, { frames := 3, cells := 0, slots := 0, locals := 62 })
theorem mk_X6_advance : zMk M_X6_advance 0 := ⟨cd_X6_advance, ini_2, ⟨by decide, by decide⟩, by decide +kernel⟩
theorem k_X6_advance : zMv M_X6_advance 0 := ⟨mk_X6_advance, im_X6_advance, se_X6_advance⟩
def M_X6_takeRun : zMd := (yX6_takeRun, cX6_takeRun, 3, none, { frames := 2, cells := 0, slots := 0, locals := 40 })
theorem mk_X6_takeRun : zMk M_X6_takeRun 0 := ⟨cd_X6_takeRun, ini_2, ⟨by decide, by decide⟩, by decide +kernel⟩
theorem k_X6_takeRun : zMv M_X6_takeRun 0 := ⟨mk_X6_takeRun, im_X6_takeRun, se_X6_takeRun⟩
def M_X6_isBlank : zMd := (yX6_isBlank, cX6_isBlank, 1, (some .boolean), { frames := 0, cells := 0, slots := 0, locals := 0 })
theorem mk_X6_isBlank : zMk M_X6_isBlank 1 := ⟨cd_X6_isBlank, ini_2, ⟨by decide, by decide⟩, by decide +kernel⟩
theorem k_X6_isBlank : zMs M_X6_isBlank 1 := ⟨mk_X6_isBlank, st_X6_isBlank⟩
def M_X6_isDigit : zMd := (yX6_isDigit, cX6_isDigit, 1, (some .boolean), { frames := 0, cells := 0, slots := 0, locals := 0 })
theorem mk_X6_isDigit : zMk M_X6_isDigit 1 := ⟨cd_X6_isDigit, ini_2, ⟨by decide, by decide⟩, by decide +kernel⟩
theorem k_X6_isDigit : zMs M_X6_isDigit 1 := ⟨mk_X6_isDigit, st_X6_isDigit⟩
def M_X6_isOfRun : zMd := (yX6_isOfRun, cX6_isOfRun, 1, (some .boolean), { frames := 1, cells := 0, slots := 0, locals := 20 })
theorem mk_X6_isOfRun : zMk M_X6_isOfRun 1 := ⟨cd_X6_isOfRun, ini_2, ⟨by decide, by decide⟩, by decide +kernel⟩
theorem k_X6_isOfRun : zMs M_X6_isOfRun 1 := ⟨mk_X6_isOfRun, st_X6_isOfRun⟩
def M_X7_init : zMd := (yX7_init, cX7_init, 1, none, { frames := 1, cells := 1, slots := 640, locals := 20 })
theorem mk_X7_init : zMk M_X7_init 0 := ⟨cd_X7_init, ini_3, ⟨by decide, by decide⟩, by decide +kernel⟩
theorem k_X7_init : zMi M_X7_init 0 := ⟨mk_X7_init, im_X7_init, rfl, rfl⟩
def M_X7_add : zMd := (yX7_add, cX7_add, 3, none, { frames := 0, cells := 0, slots := 0, locals := 0 })
theorem mk_X7_add : zMk M_X7_add 1 := ⟨cd_X7_add, ini_3, ⟨by decide, by decide⟩, by decide +kernel⟩
theorem k_X7_add : zMv M_X7_add 1 := ⟨mk_X7_add, im_X7_add, se_X7_add⟩
def M_X7_at : zMd := (yX7_at, cX7_at, 2, (some .int), { frames := 0, cells := 0, slots := 0, locals := 0 })
theorem mk_X7_at : zMk M_X7_at 1 := ⟨cd_X7_at, ini_3, ⟨by decide, by decide⟩, by decide +kernel⟩
theorem k_X7_at : zMv M_X7_at 1 := ⟨mk_X7_at, im_X7_at, se_X7_at⟩
def M_X8_init : zMd := (yX8_init, cX8_init, 1, none, { frames := 3, cells := 26, slots := 2013, locals := 60 })
theorem mk_X8_init : zMk M_X8_init 0 := ⟨cd_X8_init, ini_1, ⟨by decide, by decide⟩, by decide +kernel⟩
theorem k_X8_init : zMi M_X8_init 0 := ⟨mk_X8_init, im_X8_init, rfl, rfl⟩
def M_X8_feed : zMd := (yX8_feed, cX8_feed, 6, (some .int), { frames := 1, cells := 0, slots := 0, locals := 22 })
theorem mk_X8_feed : zMk M_X8_feed 5 := ⟨cd_X8_feed, ini_1, ⟨by decide, by decide⟩, by decide +kernel⟩
theorem k_X8_feed : zMv M_X8_feed 5 := ⟨mk_X8_feed, im_X8_feed, se_X8_feed⟩
def M_X8_end : zMd := (yX8_end, cX8_end, 2, (some .boolean), { frames := 0, cells := 0, slots := 0, locals := 0 })
theorem mk_X8_end : zMk M_X8_end 1 := ⟨cd_X8_end, ini_1, ⟨by decide, by decide⟩, by decide +kernel⟩
theorem k_X8_end : zMv M_X8_end 1 := ⟨mk_X8_end, im_X8_end, se_X8_end⟩
def M_X8_text : zMd := (yX8_text, cX8_text, 2, (some .int), { frames := 7, cells := 0, slots := 0, locals := 150 })
theorem mk_X8_text : zMk M_X8_text 0 := ⟨cd_X8_text, ini_1, ⟨by decide, by decide⟩, by decide +kernel⟩
theorem k_X8_text : zMv M_X8_text 0 := ⟨mk_X8_text, im_X8_text, se_X8_text⟩
def M_X8_fault : zMd := (yX8_fault, cX8_fault, 1, (some .int), { frames := 0, cells := 0, slots := 0, locals := 0 })
theorem mk_X8_fault : zMk M_X8_fault 0 := ⟨cd_X8_fault, ini_1, ⟨by decide, by decide⟩, by decide +kernel⟩
theorem k_X8_fault : zMv M_X8_fault 0 := ⟨mk_X8_fault, im_X8_fault, se_X8_fault⟩
def M_X8_now : zMd := (yX8_now, cX8_now, 2, (some .int), { frames := 3, cells := 0, slots := 0, locals := 69 })
theorem mk_X8_now : zMk M_X8_now 1 := ⟨cd_X8_now, ini_1, ⟨by decide, by decide⟩, by decide +kernel⟩
theorem k_X8_now : zMv M_X8_now 1 := ⟨mk_X8_now, im_X8_now, se_X8_now⟩
def M_X8_item : zMd := (yX8_item, cX8_item, 3, (some .int), { frames := 6, cells := 1, slots := 6, locals := 90 })
theorem mk_X8_item : zMk M_X8_item 2 := ⟨cd_X8_item, ini_1, ⟨by decide, by decide⟩, by decide +kernel⟩
theorem k_X8_item : zMv M_X8_item 2 := ⟨mk_X8_item, im_X8_item, se_X8_item⟩
def M_X8_loss : zMd := (yX8_loss, cX8_loss, 3, (some .int), { frames := 6, cells := 1, slots := 6, locals := 90 })
theorem mk_X8_loss : zMk M_X8_loss 2 := ⟨cd_X8_loss, ini_1, ⟨by decide, by decide⟩, by decide +kernel⟩
theorem k_X8_loss : zMv M_X8_loss 2 := ⟨mk_X8_loss, im_X8_loss, se_X8_loss⟩
def M_X8_rate : zMd := (yX8_rate, cX8_rate, 3, (some .int), { frames := 1, cells := 0, slots := 0, locals := 21 })
theorem mk_X8_rate : zMk M_X8_rate 2 := ⟨cd_X8_rate, ini_1, ⟨by decide, by decide⟩, by decide +kernel⟩
theorem k_X8_rate : zMv M_X8_rate 2 := ⟨mk_X8_rate, im_X8_rate, se_X8_rate⟩
def M_X8_covered : zMd := (yX8_covered, cX8_covered, 4, (some .int), { frames := 5, cells := 0, slots := 0, locals := 119 })
theorem mk_X8_covered : zMk M_X8_covered 3 := ⟨cd_X8_covered, ini_1, ⟨by decide, by decide⟩, by decide +kernel⟩
theorem k_X8_covered : zMv M_X8_covered 3 := ⟨mk_X8_covered, im_X8_covered, se_X8_covered⟩
def M_X8_balance : zMd := (yX8_balance, cX8_balance, 3, (some .int), { frames := 7, cells := 0, slots := 0, locals := 165 })
theorem mk_X8_balance : zMk M_X8_balance 2 := ⟨cd_X8_balance, ini_1, ⟨by decide, by decide⟩, by decide +kernel⟩
theorem k_X8_balance : zMv M_X8_balance 2 := ⟨mk_X8_balance, im_X8_balance, se_X8_balance⟩
def M_X8_closing : zMd := (yX8_closing, cX8_closing, 5, (some .int), { frames := 1, cells := 0, slots := 0, locals := 21 })
theorem mk_X8_closing : zMk M_X8_closing 3 := ⟨cd_X8_closing, ini_1, ⟨by decide, by decide⟩, by decide +kernel⟩
theorem k_X8_closing : zMv M_X8_closing 3 := ⟨mk_X8_closing, im_X8_closing, se_X8_closing⟩
def M_X8_would : zMd := (yX8_would, cX8_would, 4, (some .int), { frames := 5, cells := 0, slots := 0, locals := 119 })
theorem mk_X8_would : zMk M_X8_would 3 := ⟨cd_X8_would, ini_1, ⟨by decide, by decide⟩, by decide +kernel⟩
theorem k_X8_would : zMv M_X8_would 3 := ⟨mk_X8_would, im_X8_would, se_X8_would⟩
def M_X8_needs : zMd := (yX8_needs, cX8_needs, 3, (some .int), { frames := 6, cells := 0, slots := 0, locals := 145 })
theorem mk_X8_needs : zMk M_X8_needs 2 := ⟨cd_X8_needs, ini_1, ⟨by decide, by decide⟩, by decide +kernel⟩
theorem k_X8_needs : zMv M_X8_needs 2 := ⟨mk_X8_needs, im_X8_needs, se_X8_needs⟩
def M_X8_enact : zMd := (yX8_enact, cX8_enact, 5, (some .int), { frames := 3, cells := 5, slots := 439, locals := 101 })
theorem mk_X8_enact : zMk M_X8_enact 3 := ⟨cd_X8_enact, ini_1, ⟨by decide, by decide⟩, by decide +kernel⟩
theorem k_X8_enact : zMv M_X8_enact 3 := ⟨mk_X8_enact, im_X8_enact, se_X8_enact⟩
def M_X8_expect : zMd := (yX8_expect, cX8_expect, 5, (some .int), { frames := 3, cells := 5, slots := 439, locals := 101 })
theorem mk_X8_expect : zMk M_X8_expect 3 := ⟨cd_X8_expect, ini_1, ⟨by decide, by decide⟩, by decide +kernel⟩
theorem k_X8_expect : zMv M_X8_expect 3 := ⟨mk_X8_expect, im_X8_expect, se_X8_expect⟩
def M_X8_arises : zMd := (yX8_arises, cX8_arises, 6, (some .int), { frames := 3, cells := 5, slots := 439, locals := 101 })
theorem mk_X8_arises : zMk M_X8_arises 5 := ⟨cd_X8_arises, ini_1, ⟨by decide, by decide⟩, by decide +kernel⟩
theorem k_X8_arises : zMv M_X8_arises 5 := ⟨mk_X8_arises, im_X8_arises, se_X8_arises⟩
def M_X8_settle : zMd := (yX8_settle, cX8_settle, 3, (some .int), { frames := 3, cells := 5, slots := 439, locals := 101 })
theorem mk_X8_settle : zMk M_X8_settle 1 := ⟨cd_X8_settle, ini_1, ⟨by decide, by decide⟩, by decide +kernel⟩
theorem k_X8_settle : zMv M_X8_settle 1 := ⟨mk_X8_settle, im_X8_settle, se_X8_settle⟩
def M_X8_loses : zMd := (yX8_loses, cX8_loses, 4, (some .int), { frames := 3, cells := 5, slots := 439, locals := 101 })
theorem mk_X8_loses : zMk M_X8_loses 3 := ⟨cd_X8_loses, ini_1, ⟨by decide, by decide⟩, by decide +kernel⟩
theorem k_X8_loses : zMv M_X8_loses 3 := ⟨mk_X8_loses, im_X8_loses, se_X8_loses⟩
def M_X8_yearEnd : zMd := (yX8_yearEnd, cX8_yearEnd, 3, (some .int), { frames := 5, cells := 29, slots := 979, locals := 119 })
theorem mk_X8_yearEnd : zMk M_X8_yearEnd 0 := ⟨cd_X8_yearEnd, ini_1, ⟨by decide, by decide⟩, by decide +kernel⟩
theorem k_X8_yearEnd : zMv M_X8_yearEnd 0 := ⟨mk_X8_yearEnd, im_X8_yearEnd, se_X8_yearEnd⟩
def M_X8_undo : zMd := (yX8_undo, cX8_undo, 1, (some .int), { frames := 3, cells := 0, slots := 0, locals := 101 })
theorem mk_X8_undo : zMk M_X8_undo 0 := ⟨cd_X8_undo, ini_1, ⟨by decide, by decide⟩, by decide +kernel⟩
theorem k_X8_undo : zMv M_X8_undo 0 := ⟨mk_X8_undo, im_X8_undo, se_X8_undo⟩
def M_X8_isSum : zMd := (yX8_isSum, cX8_isSum, 1, (some .boolean), { frames := 0, cells := 0, slots := 0, locals := 0 })
theorem mk_X8_isSum : zMk M_X8_isSum 1 := ⟨cd_X8_isSum, ini_1, ⟨by decide, by decide⟩, by decide +kernel⟩
theorem k_X8_isSum : zMs M_X8_isSum 1 := ⟨mk_X8_isSum, st_X8_isSum⟩
def M_X8_isYearToCome : zMd := (yX8_isYearToCome, cX8_isYearToCome, 3, (some .boolean), { frames := 1, cells := 0, slots := 0, locals := 21 })
theorem mk_X8_isYearToCome : zMk M_X8_isYearToCome 2 := ⟨cd_X8_isYearToCome, ini_1, ⟨by decide, by decide⟩, by decide +kernel⟩
theorem k_X8_isYearToCome : zMv M_X8_isYearToCome 2 := ⟨mk_X8_isYearToCome, im_X8_isYearToCome, se_X8_isYearToCome⟩
def M_X8_isYearNotClosed : zMd := (yX8_isYearNotClosed, cX8_isYearNotClosed, 3, (some .boolean), { frames := 1, cells := 0, slots := 0, locals := 21 })
theorem mk_X8_isYearNotClosed : zMk M_X8_isYearNotClosed 2 := ⟨cd_X8_isYearNotClosed, ini_1, ⟨by decide, by decide⟩, by decide +kernel⟩
theorem k_X8_isYearNotClosed : zMv M_X8_isYearNotClosed 2 := ⟨mk_X8_isYearNotClosed, im_X8_isYearNotClosed, se_X8_isYearNotClosed⟩
def M_X8_mayBeEnacted : zMd := (yX8_mayBeEnacted, cX8_mayBeEnacted, 4, (some .boolean), { frames := 2, cells := 0, slots := 0, locals := 43 })
theorem mk_X8_mayBeEnacted : zMk M_X8_mayBeEnacted 3 := ⟨cd_X8_mayBeEnacted, ini_1, ⟨by decide, by decide⟩, by decide +kernel⟩
theorem k_X8_mayBeEnacted : zMv M_X8_mayBeEnacted 3 := ⟨mk_X8_mayBeEnacted, im_X8_mayBeEnacted, se_X8_mayBeEnacted⟩
def M_X8_balanceOfOne : zMd := (yX8_balanceOfOne, cX8_balanceOfOne, 3, (some .int), { frames := 5, cells := 0, slots := 0, locals := 119 })
theorem mk_X8_balanceOfOne : zMk M_X8_balanceOfOne 2 := ⟨cd_X8_balanceOfOne, ini_1, ⟨by decide, by decide⟩, by decide +kernel⟩
theorem k_X8_balanceOfOne : zMv M_X8_balanceOfOne 2 := ⟨mk_X8_balanceOfOne, im_X8_balanceOfOne, se_X8_balanceOfOne⟩
def M_X8_balanceOfAll : zMd := (yX8_balanceOfAll, cX8_balanceOfAll, 5, (some .int), { frames := 6, cells := 0, slots := 0, locals := 141 })
theorem mk_X8_balanceOfAll : zMk M_X8_balanceOfAll 1 := ⟨cd_X8_balanceOfAll, ini_1, ⟨by decide, by decide⟩, by decide +kernel⟩
theorem k_X8_balanceOfAll : zMv M_X8_balanceOfAll 1 := ⟨mk_X8_balanceOfAll, im_X8_balanceOfAll, se_X8_balanceOfAll⟩
def M_X8_leastProfitMore : zMd := (yX8_leastProfitMore, cX8_leastProfitMore, 7, (some .int), { frames := 5, cells := 0, slots := 0, locals := 119 })
theorem mk_X8_leastProfitMore : zMk M_X8_leastProfitMore 2 := ⟨cd_X8_leastProfitMore, ini_1, ⟨by decide, by decide⟩, by decide +kernel⟩
theorem k_X8_leastProfitMore : zMv M_X8_leastProfitMore 2 := ⟨mk_X8_leastProfitMore, im_X8_leastProfitMore, se_X8_leastProfitMore⟩
def M_X8_isEnough : zMd := (yX8_isEnough, cX8_isEnough, 4, (some .boolean), { frames := 4, cells := 0, slots := 0, locals := 96 })
theorem mk_X8_isEnough : zMk M_X8_isEnough 3 := ⟨cd_X8_isEnough, ini_1, ⟨by decide, by decide⟩, by decide +kernel⟩
theorem k_X8_isEnough : zMv M_X8_isEnough 3 := ⟨mk_X8_isEnough, im_X8_isEnough, se_X8_isEnough⟩
def M_X8_closingToFill : zMd := (yX8_closingToFill, cX8_closingToFill, 3, (some (.object "DeferredDesk$Closing")), { frames := 2, cells := 4, slots := 90, locals := 40 })
theorem mk_X8_closingToFill : zMk M_X8_closingToFill 1 := ⟨cd_X8_closingToFill, ini_1, ⟨by decide, by decide⟩, by decide +kernel⟩
theorem k_X8_closingToFill : zMv M_X8_closingToFill 1 := ⟨mk_X8_closingToFill, im_X8_closingToFill, se_X8_closingToFill⟩
def M_X8_closingAhead : zMd := (yX8_closingAhead, cX8_closingAhead, 2, (some (.object "DeferredDesk$Closing")), { frames := 0, cells := 0, slots := 0, locals := 0 })
theorem mk_X8_closingAhead : zMk M_X8_closingAhead 1 := ⟨cd_X8_closingAhead, ini_1, ⟨by decide, by decide⟩, by decide +kernel⟩
theorem k_X8_closingAhead : zMv M_X8_closingAhead 1 := ⟨mk_X8_closingAhead, im_X8_closingAhead, se_X8_closingAhead⟩
def M_X9_thrown : zMd := (yX9_thrown, cX9_thrown, 1, (some .int), { frames := 0, cells := 0, slots := 0, locals := 0 })
theorem mk_X9_thrown : zMk M_X9_thrown 0 := ⟨cd_X9_thrown, ini_7, ⟨by decide, by decide⟩, by decide +kernel⟩
theorem k_X9_thrown : zMv M_X9_thrown 0 := ⟨mk_X9_thrown, im_X9_thrown, se_X9_thrown⟩
def M_X9_refuse : zMd := (yX9_refuse, cX9_refuse, 1, (some .int), { frames := 0, cells := 0, slots := 0, locals := 0 })
theorem mk_X9_refuse : zMk M_X9_refuse 0 := ⟨cd_X9_refuse, ini_7, ⟨by decide, by decide⟩, by decide +kernel⟩
theorem k_X9_refuse : zMv M_X9_refuse 0 := ⟨mk_X9_refuse, im_X9_refuse, se_X9_refuse⟩
def M_X9_isIn : zMd := (yX9_isIn, cX9_isIn, 3, (some .boolean), { frames := 0, cells := 0, slots := 0, locals := 0 })
theorem mk_X9_isIn : zMk M_X9_isIn 3 := ⟨cd_X9_isIn, ini_7, ⟨by decide, by decide⟩, by decide +kernel⟩
theorem k_X9_isIn : zMs M_X9_isIn 3 := ⟨mk_X9_isIn, st_X9_isIn⟩
def M_X9_lays : zMd := (yX9_lays, cX9_lays, 3, none, { frames := 0, cells := 0, slots := 0, locals := 0 })
theorem mk_X9_lays : zMk M_X9_lays 1 := ⟨cd_X9_lays, ini_7, ⟨by decide, by decide⟩, by decide +kernel⟩
theorem k_X9_lays : zMv M_X9_lays 1 := ⟨mk_X9_lays, im_X9_lays, se_X9_lays⟩
def M_X9_feed : zMd := (yX9_feed, cX9_feed, 6, (some .int), { frames := 1, cells := 0, slots := 0, locals := 22 })
theorem mk_X9_feed : zMk M_X9_feed 5 := ⟨cd_X9_feed, ini_7, ⟨by decide, by decide⟩, by decide +kernel⟩
theorem k_X9_feed : zMv M_X9_feed 5 := ⟨mk_X9_feed, im_X9_feed, se_X9_feed⟩
def M_X9_end : zMd := (yX9_end, cX9_end, 2, (some .boolean), { frames := 0, cells := 0, slots := 0, locals := 0 })
theorem mk_X9_end : zMk M_X9_end 1 := ⟨cd_X9_end, ini_7, ⟨by decide, by decide⟩, by decide +kernel⟩
theorem k_X9_end : zMv M_X9_end 1 := ⟨mk_X9_end, im_X9_end, se_X9_end⟩
def M_X9_tapeAt : zMd := (yX9_tapeAt, cX9_tapeAt, 2, (some .int), { frames := 0, cells := 0, slots := 0, locals := 0 })
theorem mk_X9_tapeAt : zMk M_X9_tapeAt 1 := ⟨cd_X9_tapeAt, ini_7, ⟨by decide, by decide⟩, by decide +kernel⟩
theorem k_X9_tapeAt : zMv M_X9_tapeAt 1 := ⟨mk_X9_tapeAt, im_X9_tapeAt, se_X9_tapeAt⟩
def M_X9_isDigit : zMd := (yX9_isDigit, cX9_isDigit, 1, (some .boolean), { frames := 0, cells := 0, slots := 0, locals := 0 })
theorem mk_X9_isDigit : zMk M_X9_isDigit 1 := ⟨cd_X9_isDigit, ini_7, ⟨by decide, by decide⟩, by decide +kernel⟩
theorem k_X9_isDigit : zMs M_X9_isDigit 1 := ⟨mk_X9_isDigit, st_X9_isDigit⟩
def M_X9_isLetter : zMd := (yX9_isLetter, cX9_isLetter, 1, (some .boolean), { frames := 0, cells := 0, slots := 0, locals := 0 })
theorem mk_X9_isLetter : zMk M_X9_isLetter 1 := ⟨cd_X9_isLetter, ini_7, ⟨by decide, by decide⟩, by decide +kernel⟩
theorem k_X9_isLetter : zMs M_X9_isLetter 1 := ⟨mk_X9_isLetter, st_X9_isLetter⟩
def M_X9_go : zMd := (yX9_go, cX9_go, 5, none, { frames := 1, cells := 0, slots := 0, locals := 21 })
theorem mk_X9_go : zMk M_X9_go 0 := ⟨cd_X9_go, ini_7, ⟨by decide, by decide⟩, by decide +kernel⟩
theorem k_X9_go : zMv M_X9_go 0 := ⟨mk_X9_go, im_X9_go, se_X9_go⟩
def M_X9_two : zMd := (yX9_two, cX9_two, 2, (some .long), { frames := 0, cells := 0, slots := 0, locals := 0 })
theorem mk_X9_two : zMk M_X9_two 2 := ⟨cd_X9_two, ini_7, ⟨by decide, by decide⟩, by decide +kernel⟩
theorem k_X9_two : zMs M_X9_two 2 := ⟨mk_X9_two, st_X9_two⟩
def M_X9_four : zMd := (yX9_four, cX9_four, 4, (some .long), { frames := 1, cells := 0, slots := 0, locals := 21 })
theorem mk_X9_four : zMk M_X9_four 4 := ⟨cd_X9_four, ini_7, ⟨by decide, by decide⟩, by decide +kernel⟩
theorem k_X9_four : zMs M_X9_four 4 := ⟨mk_X9_four, st_X9_four⟩
def M_X9_six : zMd := (yX9_six, cX9_six, 6, (some .long), { frames := 2, cells := 0, slots := 0, locals := 44 })
theorem mk_X9_six : zMk M_X9_six 6 := ⟨cd_X9_six, ini_7, ⟨by decide, by decide⟩, by decide +kernel⟩
theorem k_X9_six : zMs M_X9_six 6 := ⟨mk_X9_six, st_X9_six⟩
def M_X9_isWord : zMd := (yX9_isWord, cX9_isWord, 3, (some .boolean), { frames := 0, cells := 0, slots := 0, locals := 0 })
theorem mk_X9_isWord : zMk M_X9_isWord 1 := ⟨cd_X9_isWord, ini_7, ⟨by decide, by decide⟩, by decide +kernel⟩
theorem k_X9_isWord : zMv M_X9_isWord 1 := ⟨mk_X9_isWord, im_X9_isWord, se_X9_isWord⟩
def M_X9_bad : zMd := (yX9_bad, cX9_bad, 2, (some .boolean), { frames := 0, cells := 0, slots := 0, locals := 0 })
theorem mk_X9_bad : zMk M_X9_bad 1 := ⟨cd_X9_bad, ini_7, ⟨by decide, by decide⟩, by decide +kernel⟩
theorem k_X9_bad : zMv M_X9_bad 1 := ⟨mk_X9_bad, im_X9_bad, se_X9_bad⟩
def M_X9_init : zMd := (yX9_init, cX9_init, 1, none, { frames := 1, cells := 13, slots := 17760, locals := 20 })
theorem mk_X9_init : zMk M_X9_init 0 := ⟨cd_X9_init, ini_7, ⟨by decide, by decide⟩, by decide +kernel⟩
theorem k_X9_init : zMi M_X9_init 0 := ⟨mk_X9_init, im_X9_init, rfl, rfl⟩
def M_X9_told : zMd := (yX9_told, cX9_told, 4, (some .boolean), { frames := 2, cells := 0, slots := 0, locals := 45 })
theorem mk_X9_told : zMk M_X9_told 3 := ⟨cd_X9_told, ini_7, ⟨by decide, by decide⟩, by decide +kernel⟩
theorem k_X9_told : zMv M_X9_told 3 := ⟨mk_X9_told, im_X9_told, se_X9_told⟩
def M_X9_takes : zMd := (yX9_takes, cX9_takes, 3, (some .boolean), { frames := 2, cells := 0, slots := 0, locals := 45 })
theorem mk_X9_takes : zMk M_X9_takes 2 := ⟨cd_X9_takes, ini_7, ⟨by decide, by decide⟩, by decide +kernel⟩
theorem k_X9_takes : zMv M_X9_takes 2 := ⟨mk_X9_takes, im_X9_takes, se_X9_takes⟩
def M_X9_readEnd : zMd := (yX9_readEnd, cX9_readEnd, 1, (some .boolean), { frames := 2, cells := 0, slots := 0, locals := 45 })
theorem mk_X9_readEnd : zMk M_X9_readEnd 0 := ⟨cd_X9_readEnd, ini_7, ⟨by decide, by decide⟩, by decide +kernel⟩
theorem k_X9_readEnd : zMv M_X9_readEnd 0 := ⟨mk_X9_readEnd, im_X9_readEnd, se_X9_readEnd⟩
def M_X9_setRates : zMd := (yX9_setRates, cX9_setRates, 5, none, { frames := 0, cells := 0, slots := 0, locals := 0 })
theorem mk_X9_setRates : zMk M_X9_setRates 4 := ⟨cd_X9_setRates, ini_7, ⟨by decide, by decide⟩, by decide +kernel⟩
theorem k_X9_setRates : zMs M_X9_setRates 4 := ⟨mk_X9_setRates, st_X9_setRates⟩
def M_X9_isOfficeWord : zMd := (yX9_isOfficeWord, cX9_isOfficeWord, 1, (some .boolean), { frames := 3, cells := 0, slots := 0, locals := 69 })
theorem mk_X9_isOfficeWord : zMk M_X9_isOfficeWord 0 := ⟨cd_X9_isOfficeWord, ini_7, ⟨by decide, by decide⟩, by decide +kernel⟩
theorem k_X9_isOfficeWord : zMv M_X9_isOfficeWord 0 := ⟨mk_X9_isOfficeWord, im_X9_isOfficeWord, se_X9_isOfficeWord⟩
def M_X9_readOffice : zMd := (yX9_readOffice, cX9_readOffice, 1, (some .boolean), { frames := 4, cells := 0, slots := 0, locals := 89 })
theorem mk_X9_readOffice : zMk M_X9_readOffice 0 := ⟨cd_X9_readOffice, ini_7, ⟨by decide, by decide⟩, by decide +kernel⟩
theorem k_X9_readOffice : zMv M_X9_readOffice 0 := ⟨mk_X9_readOffice, im_X9_readOffice, se_X9_readOffice⟩
def M_X9_readOfYear : zMd := (yX9_readOfYear, cX9_readOfYear, 4, (some .boolean), { frames := 3, cells := 0, slots := 0, locals := 67 })
theorem mk_X9_readOfYear : zMk M_X9_readOfYear 1 := ⟨cd_X9_readOfYear, ini_7, ⟨by decide, by decide⟩, by decide +kernel⟩
theorem k_X9_readOfYear : zMv M_X9_readOfYear 1 := ⟨mk_X9_readOfYear, im_X9_readOfYear, se_X9_readOfYear⟩
def M_X9_readItem : zMd := (yX9_readItem, cX9_readItem, 3, (some .boolean), { frames := 3, cells := 0, slots := 0, locals := 68 })
theorem mk_X9_readItem : zMk M_X9_readItem 1 := ⟨cd_X9_readItem, ini_7, ⟨by decide, by decide⟩, by decide +kernel⟩
theorem k_X9_readItem : zMv M_X9_readItem 1 := ⟨mk_X9_readItem, im_X9_readItem, se_X9_readItem⟩
def M_X9_readLoss : zMd := (yX9_readLoss, cX9_readLoss, 2, (some .boolean), { frames := 3, cells := 0, slots := 0, locals := 68 })
theorem mk_X9_readLoss : zMk M_X9_readLoss 0 := ⟨cd_X9_readLoss, ini_7, ⟨by decide, by decide⟩, by decide +kernel⟩
theorem k_X9_readLoss : zMv M_X9_readLoss 0 := ⟨mk_X9_readLoss, im_X9_readLoss, se_X9_readLoss⟩
def M_X9_readLine : zMd := (yX9_readLine, cX9_readLine, 1, (some .boolean), { frames := 4, cells := 0, slots := 0, locals := 90 })
theorem mk_X9_readLine : zMk M_X9_readLine 0 := ⟨cd_X9_readLine, ini_7, ⟨by decide, by decide⟩, by decide +kernel⟩
theorem k_X9_readLine : zMv M_X9_readLine 0 := ⟨mk_X9_readLine, im_X9_readLine, se_X9_readLine⟩
def M_X9_text : zMd := (yX9_text, cX9_text, 3, (some .int), { frames := 6, cells := 0, slots := 0, locals := 129 })
theorem mk_X9_text : zMk M_X9_text 0 := ⟨cd_X9_text, ini_7, ⟨by decide, by decide⟩, by decide +kernel⟩
theorem k_X9_text : zMv M_X9_text 0 := ⟨mk_X9_text, im_X9_text, se_X9_text⟩
def M_X9_readHead : zMd := (yX9_readHead, cX9_readHead, 1, (some .int), { frames := 5, cells := 0, slots := 0, locals := 109 })
theorem mk_X9_readHead : zMk M_X9_readHead 0 := ⟨cd_X9_readHead, ini_7, ⟨by decide, by decide⟩, by decide +kernel⟩
theorem k_X9_readHead : zMv M_X9_readHead 0 := ⟨mk_X9_readHead, im_X9_readHead, se_X9_readHead⟩
def M_X9_fault : zMd := (yX9_fault, cX9_fault, 1, (some .int), { frames := 0, cells := 0, slots := 0, locals := 0 })
theorem mk_X9_fault : zMk M_X9_fault 0 := ⟨cd_X9_fault, ini_7, ⟨by decide, by decide⟩, by decide +kernel⟩
theorem k_X9_fault : zMv M_X9_fault 0 := ⟨mk_X9_fault, im_X9_fault, se_X9_fault⟩
def M_X9_isOffice : zMd := (yX9_isOffice, cX9_isOffice, 2, (some .boolean), { frames := 1, cells := 0, slots := 0, locals := 22 })
theorem mk_X9_isOffice : zMk M_X9_isOffice 1 := ⟨cd_X9_isOffice, ini_7, ⟨by decide, by decide⟩, by decide +kernel⟩
theorem k_X9_isOffice : zMv M_X9_isOffice 1 := ⟨mk_X9_isOffice, im_X9_isOffice, se_X9_isOffice⟩
def M_X9_isYear : zMd := (yX9_isYear, cX9_isYear, 1, (some .boolean), { frames := 1, cells := 0, slots := 0, locals := 22 })
theorem mk_X9_isYear : zMk M_X9_isYear 1 := ⟨cd_X9_isYear, ini_7, ⟨by decide, by decide⟩, by decide +kernel⟩
theorem k_X9_isYear : zMs M_X9_isYear 1 := ⟨mk_X9_isYear, st_X9_isYear⟩
def M_X9_isAhead : zMd := (yX9_isAhead, cX9_isAhead, 2, (some .boolean), { frames := 1, cells := 0, slots := 0, locals := 22 })
theorem mk_X9_isAhead : zMk M_X9_isAhead 1 := ⟨cd_X9_isAhead, ini_7, ⟨by decide, by decide⟩, by decide +kernel⟩
theorem k_X9_isAhead : zMv M_X9_isAhead 1 := ⟨mk_X9_isAhead, im_X9_isAhead, se_X9_isAhead⟩
def M_X9_isItem : zMd := (yX9_isItem, cX9_isItem, 2, (some .boolean), { frames := 1, cells := 0, slots := 0, locals := 22 })
theorem mk_X9_isItem : zMk M_X9_isItem 1 := ⟨cd_X9_isItem, ini_7, ⟨by decide, by decide⟩, by decide +kernel⟩
theorem k_X9_isItem : zMv M_X9_isItem 1 := ⟨mk_X9_isItem, im_X9_isItem, se_X9_isItem⟩
def M_X9_isLoss : zMd := (yX9_isLoss, cX9_isLoss, 2, (some .boolean), { frames := 1, cells := 0, slots := 0, locals := 22 })
theorem mk_X9_isLoss : zMk M_X9_isLoss 1 := ⟨cd_X9_isLoss, ini_7, ⟨by decide, by decide⟩, by decide +kernel⟩
theorem k_X9_isLoss : zMv M_X9_isLoss 1 := ⟨mk_X9_isLoss, im_X9_isLoss, se_X9_isLoss⟩
def M_X9_its : zMd := (yX9_its, cX9_its, 3, (some .int), { frames := 0, cells := 0, slots := 0, locals := 0 })
theorem mk_X9_its : zMk M_X9_its 2 := ⟨cd_X9_its, ini_7, ⟨by decide, by decide⟩, by decide +kernel⟩
theorem k_X9_its : zMv M_X9_its 2 := ⟨mk_X9_its, im_X9_its, se_X9_its⟩
def M_X9_lost : zMd := (yX9_lost, cX9_lost, 3, (some .int), { frames := 0, cells := 0, slots := 0, locals := 0 })
theorem mk_X9_lost : zMk M_X9_lost 2 := ⟨cd_X9_lost, ini_7, ⟨by decide, by decide⟩, by decide +kernel⟩
theorem k_X9_lost : zMv M_X9_lost 2 := ⟨mk_X9_lost, im_X9_lost, se_X9_lost⟩
def M_X9_upTo : zMd := (yX9_upTo, cX9_upTo, 5, (some .int), { frames := 1, cells := 0, slots := 0, locals := 22 })
theorem mk_X9_upTo : zMk M_X9_upTo 2 := ⟨cd_X9_upTo, ini_7, ⟨by decide, by decide⟩, by decide +kernel⟩
theorem k_X9_upTo : zMv M_X9_upTo 2 := ⟨mk_X9_upTo, im_X9_upTo, se_X9_upTo⟩
def M_X9_part : zMd := (yX9_part, cX9_part, 3, (some .int), { frames := 2, cells := 0, slots := 0, locals := 46 })
theorem mk_X9_part : zMk M_X9_part 2 := ⟨cd_X9_part, ini_7, ⟨by decide, by decide⟩, by decide +kernel⟩
theorem k_X9_part : zMv M_X9_part 2 := ⟨mk_X9_part, im_X9_part, se_X9_part⟩
def M_X9_openOf : zMd := (yX9_openOf, cX9_openOf, 2, (some .int), { frames := 2, cells := 0, slots := 0, locals := 46 })
theorem mk_X9_openOf : zMk M_X9_openOf 1 := ⟨cd_X9_openOf, ini_7, ⟨by decide, by decide⟩, by decide +kernel⟩
theorem k_X9_openOf : zMv M_X9_openOf 1 := ⟨mk_X9_openOf, im_X9_openOf, se_X9_openOf⟩
def M_X9_partsOf : zMd := (yX9_partsOf, cX9_partsOf, 6, (some .int), { frames := 3, cells := 0, slots := 0, locals := 68 })
theorem mk_X9_partsOf : zMk M_X9_partsOf 3 := ⟨cd_X9_partsOf, ini_7, ⟨by decide, by decide⟩, by decide +kernel⟩
theorem k_X9_partsOf : zMv M_X9_partsOf 3 := ⟨mk_X9_partsOf, im_X9_partsOf, se_X9_partsOf⟩
def M_X9_rateOf : zMd := (yX9_rateOf, cX9_rateOf, 3, (some .int), { frames := 0, cells := 0, slots := 0, locals := 0 })
theorem mk_X9_rateOf : zMk M_X9_rateOf 2 := ⟨cd_X9_rateOf, ini_7, ⟨by decide, by decide⟩, by decide +kernel⟩
theorem k_X9_rateOf : zMv M_X9_rateOf 2 := ⟨mk_X9_rateOf, im_X9_rateOf, se_X9_rateOf⟩
def M_X9_profitOf : zMd := (yX9_profitOf, cX9_profitOf, 3, (some .int), { frames := 0, cells := 0, slots := 0, locals := 0 })
theorem mk_X9_profitOf : zMk M_X9_profitOf 2 := ⟨cd_X9_profitOf, ini_7, ⟨by decide, by decide⟩, by decide +kernel⟩
theorem k_X9_profitOf : zMv M_X9_profitOf 2 := ⟨mk_X9_profitOf, im_X9_profitOf, se_X9_profitOf⟩
def M_X9_nextLoss : zMd := (yX9_nextLoss, cX9_nextLoss, 4, (some .int), { frames := 0, cells := 0, slots := 0, locals := 0 })
theorem mk_X9_nextLoss : zMk M_X9_nextLoss 1 := ⟨cd_X9_nextLoss, ini_7, ⟨by decide, by decide⟩, by decide +kernel⟩
theorem k_X9_nextLoss : zMv M_X9_nextLoss 1 := ⟨mk_X9_nextLoss, im_X9_nextLoss, se_X9_nextLoss⟩
def M_X9_sweeps : zMd := (yX9_sweeps, cX9_sweeps, 6, none, { frames := 4, cells := 0, slots := 0, locals := 93 })
theorem mk_X9_sweeps : zMk M_X9_sweeps 3 := ⟨cd_X9_sweeps, ini_7, ⟨by decide, by decide⟩, by decide +kernel⟩
theorem k_X9_sweeps : zMv M_X9_sweeps 3 := ⟨mk_X9_sweeps, im_X9_sweeps, se_X9_sweeps⟩
def M_X9_usesLosses : zMd := (yX9_usesLosses, cX9_usesLosses, 6, (some .int), { frames := 1, cells := 0, slots := 0, locals := 23 })
theorem mk_X9_usesLosses : zMk M_X9_usesLosses 2 := ⟨cd_X9_usesLosses, ini_7, ⟨by decide, by decide⟩, by decide +kernel⟩
theorem k_X9_usesLosses : zMv M_X9_usesLosses 2 := ⟨mk_X9_usesLosses, im_X9_usesLosses, se_X9_usesLosses⟩
def M_X9_used : zMd := (yX9_used, cX9_used, 2, (some .int), { frames := 0, cells := 0, slots := 0, locals := 0 })
theorem mk_X9_used : zMk M_X9_used 1 := ⟨cd_X9_used, ini_7, ⟨by decide, by decide⟩, by decide +kernel⟩
theorem k_X9_used : zMv M_X9_used 1 := ⟨mk_X9_used, im_X9_used, se_X9_used⟩
def M_X9_taxOn : zMd := (yX9_taxOn, cX9_taxOn, 2, (some .int), { frames := 0, cells := 0, slots := 0, locals := 0 })
theorem mk_X9_taxOn : zMk M_X9_taxOn 2 := ⟨cd_X9_taxOn, ini_7, ⟨by decide, by decide⟩, by decide +kernel⟩
theorem k_X9_taxOn : zMs M_X9_taxOn 2 := ⟨mk_X9_taxOn, st_X9_taxOn⟩
def M_X9_liability : zMd := (yX9_liability, cX9_liability, 4, (some .int), { frames := 1, cells := 0, slots := 0, locals := 22 })
theorem mk_X9_liability : zMk M_X9_liability 1 := ⟨cd_X9_liability, ini_7, ⟨by decide, by decide⟩, by decide +kernel⟩
theorem k_X9_liability : zMv M_X9_liability 1 := ⟨mk_X9_liability, im_X9_liability, se_X9_liability⟩
def M_X9_asset : zMd := (yX9_asset, cX9_asset, 4, (some .int), { frames := 1, cells := 0, slots := 0, locals := 22 })
theorem mk_X9_asset : zMk M_X9_asset 1 := ⟨cd_X9_asset, ini_7, ⟨by decide, by decide⟩, by decide +kernel⟩
theorem k_X9_asset : zMv M_X9_asset 1 := ⟨mk_X9_asset, im_X9_asset, se_X9_asset⟩
def M_X9_unrecognised : zMd := (yX9_unrecognised, cX9_unrecognised, 4, (some .int), { frames := 3, cells := 0, slots := 0, locals := 67 })
theorem mk_X9_unrecognised : zMk M_X9_unrecognised 1 := ⟨cd_X9_unrecognised, ini_7, ⟨by decide, by decide⟩, by decide +kernel⟩
theorem k_X9_unrecognised : zMv M_X9_unrecognised 1 := ⟨mk_X9_unrecognised, im_X9_unrecognised, se_X9_unrecognised⟩
def M_X9_balanceOf : zMd := (yX9_balanceOf, cX9_balanceOf, 3, (some .int), { frames := 5, cells := 0, slots := 0, locals := 118 })
theorem mk_X9_balanceOf : zMk M_X9_balanceOf 2 := ⟨cd_X9_balanceOf, ini_7, ⟨by decide, by decide⟩, by decide +kernel⟩
theorem k_X9_balanceOf : zMv M_X9_balanceOf 2 := ⟨mk_X9_balanceOf, im_X9_balanceOf, se_X9_balanceOf⟩
def M_X9_doneItems : zMd := (yX9_doneItems, cX9_doneItems, 3, (some .int), { frames := 3, cells := 0, slots := 0, locals := 67 })
theorem mk_X9_doneItems : zMk M_X9_doneItems 0 := ⟨cd_X9_doneItems, ini_7, ⟨by decide, by decide⟩, by decide +kernel⟩
theorem k_X9_doneItems : zMv M_X9_doneItems 0 := ⟨mk_X9_doneItems, im_X9_doneItems, se_X9_doneItems⟩
def M_X9_now : zMd := (yX9_now, cX9_now, 2, (some .int), { frames := 4, cells := 0, slots := 0, locals := 89 })
theorem mk_X9_now : zMk M_X9_now 1 := ⟨cd_X9_now, ini_7, ⟨by decide, by decide⟩, by decide +kernel⟩
theorem k_X9_now : zMv M_X9_now 1 := ⟨mk_X9_now, im_X9_now, se_X9_now⟩
def M_X9_item : zMd := (yX9_item, cX9_item, 3, (some .int), { frames := 3, cells := 0, slots := 0, locals := 68 })
theorem mk_X9_item : zMk M_X9_item 2 := ⟨cd_X9_item, ini_7, ⟨by decide, by decide⟩, by decide +kernel⟩
theorem k_X9_item : zMv M_X9_item 2 := ⟨mk_X9_item, im_X9_item, se_X9_item⟩
def M_X9_loss : zMd := (yX9_loss, cX9_loss, 3, (some .int), { frames := 2, cells := 0, slots := 0, locals := 43 })
theorem mk_X9_loss : zMk M_X9_loss 2 := ⟨cd_X9_loss, ini_7, ⟨by decide, by decide⟩, by decide +kernel⟩
theorem k_X9_loss : zMv M_X9_loss 2 := ⟨mk_X9_loss, im_X9_loss, se_X9_loss⟩
def M_X9_rate : zMd := (yX9_rate, cX9_rate, 3, (some .int), { frames := 2, cells := 0, slots := 0, locals := 43 })
theorem mk_X9_rate : zMk M_X9_rate 2 := ⟨cd_X9_rate, ini_7, ⟨by decide, by decide⟩, by decide +kernel⟩
theorem k_X9_rate : zMv M_X9_rate 2 := ⟨mk_X9_rate, im_X9_rate, se_X9_rate⟩
def M_X9_covered : zMd := (yX9_covered, cX9_covered, 4, (some .int), { frames := 5, cells := 0, slots := 0, locals := 118 })
theorem mk_X9_covered : zMk M_X9_covered 3 := ⟨cd_X9_covered, ini_7, ⟨by decide, by decide⟩, by decide +kernel⟩
theorem k_X9_covered : zMv M_X9_covered 3 := ⟨mk_X9_covered, im_X9_covered, se_X9_covered⟩
def M_X9_balance : zMd := (yX9_balance, cX9_balance, 6, (some .int), { frames := 6, cells := 0, slots := 0, locals := 140 })
theorem mk_X9_balance : zMk M_X9_balance 2 := ⟨cd_X9_balance, ini_7, ⟨by decide, by decide⟩, by decide +kernel⟩
theorem k_X9_balance : zMv M_X9_balance 2 := ⟨mk_X9_balance, im_X9_balance, se_X9_balance⟩
def M_X9_closingAt : zMd := (yX9_closingAt, cX9_closingAt, 2, (some .int), { frames := 0, cells := 0, slots := 0, locals := 0 })
theorem mk_X9_closingAt : zMk M_X9_closingAt 2 := ⟨cd_X9_closingAt, ini_7, ⟨by decide, by decide⟩, by decide +kernel⟩
theorem k_X9_closingAt : zMs M_X9_closingAt 2 := ⟨mk_X9_closingAt, st_X9_closingAt⟩
def M_X9_closing : zMd := (yX9_closing, cX9_closing, 5, (some .int), { frames := 2, cells := 0, slots := 0, locals := 43 })
theorem mk_X9_closing : zMk M_X9_closing 3 := ⟨cd_X9_closing, ini_7, ⟨by decide, by decide⟩, by decide +kernel⟩
theorem k_X9_closing : zMv M_X9_closing 3 := ⟨mk_X9_closing, im_X9_closing, se_X9_closing⟩
def M_X9_canEnact : zMd := (yX9_canEnact, cX9_canEnact, 4, (some .boolean), { frames := 2, cells := 0, slots := 0, locals := 43 })
theorem mk_X9_canEnact : zMk M_X9_canEnact 3 := ⟨cd_X9_canEnact, ini_7, ⟨by decide, by decide⟩, by decide +kernel⟩
theorem k_X9_canEnact : zMv M_X9_canEnact 3 := ⟨mk_X9_canEnact, im_X9_canEnact, se_X9_canEnact⟩
def M_X9_would : zMd := (yX9_would, cX9_would, 6, (some .int), { frames := 6, cells := 0, slots := 0, locals := 140 })
theorem mk_X9_would : zMk M_X9_would 3 := ⟨cd_X9_would, ini_7, ⟨by decide, by decide⟩, by decide +kernel⟩
theorem k_X9_would : zMv M_X9_would 3 := ⟨mk_X9_would, im_X9_would, se_X9_would⟩
def M_X9_isEnough : zMd := (yX9_isEnough, cX9_isEnough, 4, (some .boolean), { frames := 5, cells := 0, slots := 0, locals := 118 })
theorem mk_X9_isEnough : zMk M_X9_isEnough 3 := ⟨cd_X9_isEnough, ini_7, ⟨by decide, by decide⟩, by decide +kernel⟩
theorem k_X9_isEnough : zMv M_X9_isEnough 3 := ⟨mk_X9_isEnough, im_X9_isEnough, se_X9_isEnough⟩
def M_X9_needs : zMd := (yX9_needs, cX9_needs, 6, (some .int), { frames := 6, cells := 0, slots := 0, locals := 141 })
theorem mk_X9_needs : zMk M_X9_needs 2 := ⟨cd_X9_needs, ini_7, ⟨by decide, by decide⟩, by decide +kernel⟩
theorem k_X9_needs : zMv M_X9_needs 2 := ⟨mk_X9_needs, im_X9_needs, se_X9_needs⟩
def M_X9_snap : zMd := (yX9_snap, cX9_snap, 2, none, { frames := 0, cells := 0, slots := 0, locals := 0 })
theorem mk_X9_snap : zMk M_X9_snap 0 := ⟨cd_X9_snap, ini_7, ⟨by decide, by decide⟩, by decide +kernel⟩
theorem k_X9_snap : zMv M_X9_snap 0 := ⟨mk_X9_snap, im_X9_snap, se_X9_snap⟩
def M_X9_enact : zMd := (yX9_enact, cX9_enact, 5, (some .int), { frames := 3, cells := 0, slots := 0, locals := 66 })
theorem mk_X9_enact : zMk M_X9_enact 3 := ⟨cd_X9_enact, ini_7, ⟨by decide, by decide⟩, by decide +kernel⟩
theorem k_X9_enact : zMv M_X9_enact 3 := ⟨mk_X9_enact, im_X9_enact, se_X9_enact⟩
def M_X9_expect : zMd := (yX9_expect, cX9_expect, 5, (some .int), { frames := 2, cells := 0, slots := 0, locals := 43 })
theorem mk_X9_expect : zMk M_X9_expect 3 := ⟨cd_X9_expect, ini_7, ⟨by decide, by decide⟩, by decide +kernel⟩
theorem k_X9_expect : zMv M_X9_expect 3 := ⟨mk_X9_expect, im_X9_expect, se_X9_expect⟩
def M_X9_arises : zMd := (yX9_arises, cX9_arises, 7, (some .int), { frames := 2, cells := 0, slots := 0, locals := 43 })
theorem mk_X9_arises : zMk M_X9_arises 5 := ⟨cd_X9_arises, ini_7, ⟨by decide, by decide⟩, by decide +kernel⟩
theorem k_X9_arises : zMv M_X9_arises 5 := ⟨mk_X9_arises, im_X9_arises, se_X9_arises⟩
def M_X9_settle : zMd := (yX9_settle, cX9_settle, 4, (some .int), { frames := 3, cells := 0, slots := 0, locals := 67 })
theorem mk_X9_settle : zMk M_X9_settle 1 := ⟨cd_X9_settle, ini_7, ⟨by decide, by decide⟩, by decide +kernel⟩
theorem k_X9_settle : zMv M_X9_settle 1 := ⟨mk_X9_settle, im_X9_settle, se_X9_settle⟩
def M_X9_addsLoss : zMd := (yX9_addsLoss, cX9_addsLoss, 5, (some .int), { frames := 0, cells := 0, slots := 0, locals := 0 })
theorem mk_X9_addsLoss : zMk M_X9_addsLoss 3 := ⟨cd_X9_addsLoss, ini_7, ⟨by decide, by decide⟩, by decide +kernel⟩
theorem k_X9_addsLoss : zMv M_X9_addsLoss 3 := ⟨mk_X9_addsLoss, im_X9_addsLoss, se_X9_addsLoss⟩
def M_X9_loses : zMd := (yX9_loses, cX9_loses, 4, (some .int), { frames := 2, cells := 0, slots := 0, locals := 43 })
theorem mk_X9_loses : zMk M_X9_loses 3 := ⟨cd_X9_loses, ini_7, ⟨by decide, by decide⟩, by decide +kernel⟩
theorem k_X9_loses : zMv M_X9_loses 3 := ⟨mk_X9_loses, im_X9_loses, se_X9_loses⟩
def M_X9_bears : zMd := (yX9_bears, cX9_bears, 6, none, { frames := 4, cells := 0, slots := 0, locals := 93 })
theorem mk_X9_bears : zMk M_X9_bears 1 := ⟨cd_X9_bears, ini_7, ⟨by decide, by decide⟩, by decide +kernel⟩
theorem k_X9_bears : zMv M_X9_bears 1 := ⟨mk_X9_bears, im_X9_bears, se_X9_bears⟩
def M_X9_closes : zMd := (yX9_closes, cX9_closes, 7, none, { frames := 5, cells := 0, slots := 0, locals := 118 })
theorem mk_X9_closes : zMk M_X9_closes 1 := ⟨cd_X9_closes, ini_7, ⟨by decide, by decide⟩, by decide +kernel⟩
theorem k_X9_closes : zMv M_X9_closes 1 := ⟨mk_X9_closes, im_X9_closes, se_X9_closes⟩
def M_X9_yearEnd : zMd := (yX9_yearEnd, cX9_yearEnd, 2, (some .int), { frames := 6, cells := 0, slots := 0, locals := 144 })
theorem mk_X9_yearEnd : zMk M_X9_yearEnd 0 := ⟨cd_X9_yearEnd, ini_7, ⟨by decide, by decide⟩, by decide +kernel⟩
theorem k_X9_yearEnd : zMv M_X9_yearEnd 0 := ⟨mk_X9_yearEnd, im_X9_yearEnd, se_X9_yearEnd⟩
def M_X9_undo : zMd := (yX9_undo, cX9_undo, 2, (some .int), { frames := 0, cells := 0, slots := 0, locals := 0 })
theorem mk_X9_undo : zMk M_X9_undo 0 := ⟨cd_X9_undo, ini_7, ⟨by decide, by decide⟩, by decide +kernel⟩
theorem k_X9_undo : zMv M_X9_undo 0 := ⟨mk_X9_undo, im_X9_undo, se_X9_undo⟩
def M_Jx29ce0_ordinal_8abf5 : zMd := (yJx29ce0_ordinal_8abf5, cJx29ce0_ordinal_8abf5, 1, (some .int), { frames := 0, cells := 0, slots := 0, locals := 0 })
theorem mk_Jx29ce0_ordinal_8abf5 : zMk M_Jx29ce0_ordinal_8abf5 0 := ⟨cd_Jx29ce0_ordinal_8abf5, ini_8, ⟨by decide, by decide⟩, by decide +kernel⟩
def M_J9_min_7cf53 : zMd := (yJ9_min_7cf53, cJ9_min_7cf53, 2, (some .int), { frames := 0, cells := 0, slots := 0, locals := 0 })
theorem mk_J9_min_7cf53 : zMk M_J9_min_7cf53 2 := ⟨cd_J9_min_7cf53, ini_19, ⟨by decide, by decide⟩, by decide +kernel⟩
theorem k_J9_min_7cf53 : zMs M_J9_min_7cf53 2 := ⟨mk_J9_min_7cf53, st_J9_min_7cf53⟩
def M_J0_length_8abf5 : zMd := (yJ0_length_8abf5, cJ0_length_8abf5, 1, (some .int), { frames := 1, cells := 0, slots := 0, locals := 20 })
theorem mk_J0_length_8abf5 : zMk M_J0_length_8abf5 0 := ⟨cd_J0_length_8abf5, ini_10, ⟨by decide, by decide⟩, by decide +kernel⟩
theorem k_J0_length_8abf5 : zMv M_J0_length_8abf5 0 := ⟨mk_J0_length_8abf5, im_J0_length_8abf5, se_J0_length_8abf5⟩
def M_J0_charAt_5068e : zMd := (yJ0_charAt_5068e, cJ0_charAt_5068e, 2, (some .char), { frames := 3, cells := 0, slots := 0, locals := 64 })
theorem mk_J0_charAt_5068e : zMk M_J0_charAt_5068e 1 := ⟨cd_J0_charAt_5068e, ini_10, ⟨by decide, by decide⟩, by decide +kernel⟩
theorem k_J0_charAt_5068e : zMv M_J0_charAt_5068e 1 := ⟨mk_J0_charAt_5068e, im_J0_charAt_5068e, se_J0_charAt_5068e⟩
def M_J0_coder_7d493 : zMd := (yJ0_coder_7d493, cJ0_coder_7d493, 1, (some .byte), { frames := 0, cells := 0, slots := 0, locals := 0 })
theorem mk_J0_coder_7d493 : zMk M_J0_coder_7d493 0 := ⟨cd_J0_coder_7d493, ini_10, ⟨by decide, by decide⟩, by decide +kernel⟩
theorem k_J0_coder_7d493 : zMv M_J0_coder_7d493 0 := ⟨mk_J0_coder_7d493, im_J0_coder_7d493, se_J0_coder_7d493⟩
def M_J0_isLatin1_aae02 : zMd := (yJ0_isLatin1_aae02, cJ0_isLatin1_aae02, 1, (some .boolean), { frames := 0, cells := 0, slots := 0, locals := 0 })
theorem mk_J0_isLatin1_aae02 : zMk M_J0_isLatin1_aae02 0 := ⟨cd_J0_isLatin1_aae02, ini_10, ⟨by decide, by decide⟩, by decide +kernel⟩
theorem k_J0_isLatin1_aae02 : zMv M_J0_isLatin1_aae02 0 := ⟨mk_J0_isLatin1_aae02, im_J0_isLatin1_aae02, se_J0_isLatin1_aae02⟩
def M_J0_checkIndex_df160 : zMd := (yJ0_checkIndex_df160, cJ0_checkIndex_df160, 2, none, { frames := 1, cells := 0, slots := 0, locals := 22 })
theorem mk_J0_checkIndex_df160 : zMk M_J0_checkIndex_df160 2 := ⟨cd_J0_checkIndex_df160, ini_10, ⟨by decide, by decide⟩, by decide +kernel⟩
theorem k_J0_checkIndex_df160 : zMs M_J0_checkIndex_df160 2 := ⟨mk_J0_checkIndex_df160, st_J0_checkIndex_df160⟩
def M_J1_charAt_3b067 : zMd := (yJ1_charAt_3b067, cJ1_charAt_3b067, 2, (some .char), { frames := 2, cells := 0, slots := 0, locals := 43 })
theorem mk_J1_charAt_3b067 : zMk M_J1_charAt_3b067 2 := ⟨cd_J1_charAt_3b067, ini_11, ⟨by decide, by decide⟩, by decide +kernel⟩
theorem k_J1_charAt_3b067 : zMs M_J1_charAt_3b067 2 := ⟨mk_J1_charAt_3b067, st_J1_charAt_3b067⟩
def M_J3_checkIndex_8e157 : zMd := (yJ3_checkIndex_8e157, cJ3_checkIndex_8e157, 3, (some .int), { frames := 0, cells := 0, slots := 0, locals := 0 })
theorem mk_J3_checkIndex_8e157 : zMk M_J3_checkIndex_8e157 3 := ⟨cd_J3_checkIndex_8e157, ini_12, ⟨by decide, by decide⟩, by decide +kernel⟩
theorem k_J3_checkIndex_8e157 : zMs M_J3_checkIndex_8e157 3 := ⟨mk_J3_checkIndex_8e157, st_J3_checkIndex_8e157⟩
theorem l_X8_11 : (RX8, 11, yX6_init) ∈ zNms := by simp [zNms]
theorem l_X6_11 : (RX6, 11, yX7_init) ∈ zNms := by simp [zNms]
theorem l_X6_24 : (RX6, 24, yX2_init) ∈ zNms := by simp [zNms]
theorem l_X8_23 : (RX8, 23, yX4_init) ∈ zNms := by simp [zNms]
theorem l_X8_30 : (RX8, 30, yX1_init) ∈ zNms := by simp [zNms]
theorem l_X8_43 : (RX8, 43, yX2_init) ∈ zNms := by simp [zNms]
theorem l_X1_19 : (RX1, 19, yX2_init) ∈ zNms := by simp [zNms]
theorem l_X8_261 : (RX8, 261, yX3_init) ∈ zNms := by simp [zNms]
theorem zcl_0 : zCl 0 RX1 TX1 := ⟨rfl, by decide +kernel, tyX1_ok, nmX1⟩
theorem zcl_1 : zCl 1 RX2 TX2 := ⟨rfl, by decide +kernel, tyX2_ok, nmX2⟩
theorem zcl_2 : zCl 2 RX3 TX3 := ⟨rfl, by decide +kernel, tyX3_ok, nmX3⟩
theorem zcl_3 : zCl 3 RX4 TX4 := ⟨rfl, by decide +kernel, tyX4_ok, nmX4⟩
theorem zcl_4 : zCl 4 RX6 TX6 := ⟨rfl, by decide +kernel, tyX6_ok, nmX6⟩
theorem zcl_5 : zCl 5 RX7 TX7 := ⟨rfl, by decide +kernel, tyX7_ok, nmX7⟩
theorem zcl_6 : zCl 6 RX8 TX8 := ⟨rfl, by decide +kernel, tyX8_ok, nmX8⟩
theorem zcl_7 : zCl 7 RX9 TX9 := ⟨rfl, by decide +kernel, tyX9_ok, nmX9⟩
theorem f_X7_11 : zFd RX7 11 5 0 true := zFd_of zcl_5 rfl fl_X7_11 rfl rfl
theorem f_X8_48 : zFd RX8 48 5 1 false := zFd_of zcl_5 rfl fl_X8_48 rfl rfl
theorem f_X7_15 : zFd RX7 15 5 1 false := zFd_of zcl_5 rfl fl_X7_15 rfl rfl
theorem f_X6_160 : zFd RX6 160 5 1 false := zFd_of zcl_5 rfl fl_X6_160 rfl rfl
theorem f_X2_9 : zFd RX2 9 1 0 true := zFd_of zcl_1 rfl fl_X2_9 rfl rfl
theorem f_X4_36 : zFd RX4 36 1 0 true := zFd_of zcl_1 rfl fl_X4_36 rfl rfl
theorem f_X8_138 : zFd RX8 138 1 0 true := zFd_of zcl_1 rfl fl_X8_138 rfl rfl
theorem f_X2_15 : zFd RX2 15 1 1 true := zFd_of zcl_1 rfl fl_X2_15 rfl rfl
theorem f_X4_79 : zFd RX4 79 1 1 true := zFd_of zcl_1 rfl fl_X4_79 rfl rfl
theorem f_X6_146 : zFd RX6 146 1 1 true := zFd_of zcl_1 rfl fl_X6_146 rfl rfl
theorem f_X8_206 : zFd RX8 206 1 1 true := zFd_of zcl_1 rfl fl_X8_206 rfl rfl
theorem f_X2_18 : zFd RX2 18 1 2 true := zFd_of zcl_1 rfl fl_X2_18 rfl rfl
theorem f_X8_111 : zFd RX8 111 1 2 true := zFd_of zcl_1 rfl fl_X8_111 rfl rfl
theorem f_X2_21 : zFd RX2 21 1 3 true := zFd_of zcl_1 rfl fl_X2_21 rfl rfl
theorem f_X8_132 : zFd RX8 132 1 3 true := zFd_of zcl_1 rfl fl_X8_132 rfl rfl
theorem f_X2_28 : zFd RX2 28 1 4 false := zFd_of zcl_1 rfl fl_X2_28 rfl rfl
theorem f_X4_63 : zFd RX4 63 1 4 false := zFd_of zcl_1 rfl fl_X4_63 rfl rfl
theorem f_X8_78 : zFd RX8 78 1 4 false := zFd_of zcl_1 rfl fl_X8_78 rfl rfl
theorem f_X2_31 : zFd RX2 31 1 5 false := zFd_of zcl_1 rfl fl_X2_31 rfl rfl
theorem f_X4_82 : zFd RX4 82 1 5 false := zFd_of zcl_1 rfl fl_X4_82 rfl rfl
theorem f_X8_81 : zFd RX8 81 1 5 false := zFd_of zcl_1 rfl fl_X8_81 rfl rfl
theorem f_X6_139 : zFd RX6 139 1 5 false := zFd_of zcl_1 rfl fl_X6_139 rfl rfl
theorem f_X2_24 : zFd RX2 24 1 6 false := zFd_of zcl_1 rfl fl_X2_24 rfl rfl
theorem f_X8_84 : zFd RX8 84 1 6 false := zFd_of zcl_1 rfl fl_X8_84 rfl rfl
theorem f_X6_111 : zFd RX6 111 1 6 false := zFd_of zcl_1 rfl fl_X6_111 rfl rfl
theorem f_X2_34 : zFd RX2 34 1 7 false := zFd_of zcl_1 rfl fl_X2_34 rfl rfl
theorem f_X4_39 : zFd RX4 39 1 7 false := zFd_of zcl_1 rfl fl_X4_39 rfl rfl
theorem f_X8_87 : zFd RX8 87 1 7 false := zFd_of zcl_1 rfl fl_X8_87 rfl rfl
theorem f_X6_122 : zFd RX6 122 1 7 false := zFd_of zcl_1 rfl fl_X6_122 rfl rfl
theorem f_X2_37 : zFd RX2 37 1 8 false := zFd_of zcl_1 rfl fl_X2_37 rfl rfl
theorem f_X8_90 : zFd RX8 90 1 8 false := zFd_of zcl_1 rfl fl_X8_90 rfl rfl
theorem f_X6_125 : zFd RX6 125 1 8 false := zFd_of zcl_1 rfl fl_X6_125 rfl rfl
theorem f_X6_12 : zFd RX6 12 4 0 true := zFd_of zcl_4 rfl fl_X6_12 rfl rfl
theorem f_X8_16 : zFd RX8 16 4 0 true := zFd_of zcl_4 rfl fl_X8_16 rfl rfl
theorem f_X6_18 : zFd RX6 18 4 1 true := zFd_of zcl_4 rfl fl_X6_18 rfl rfl
theorem f_X6_25 : zFd RX6 25 4 2 false := zFd_of zcl_4 rfl fl_X6_25 rfl rfl
theorem f_X6_32 : zFd RX6 32 4 3 false := zFd_of zcl_4 rfl fl_X6_32 rfl rfl
theorem f_X6_45 : zFd RX6 45 4 4 false := zFd_of zcl_4 rfl fl_X6_45 rfl rfl
theorem f_X6_128 : zFd RX6 128 4 5 false := zFd_of zcl_4 rfl fl_X6_128 rfl rfl
theorem f_X8_62 : zFd RX8 62 4 6 false := zFd_of zcl_4 rfl fl_X8_62 rfl rfl
theorem f_X6_93 : zFd RX6 93 4 6 false := zFd_of zcl_4 rfl fl_X6_93 rfl rfl
theorem f_X6_36 : zFd RX6 36 4 7 false := zFd_of zcl_4 rfl fl_X6_36 rfl rfl
theorem f_X8_72 : zFd RX8 72 4 7 false := zFd_of zcl_4 rfl fl_X8_72 rfl rfl
theorem f_X6_39 : zFd RX6 39 4 8 false := zFd_of zcl_4 rfl fl_X6_39 rfl rfl
theorem f_X8_75 : zFd RX8 75 4 8 false := zFd_of zcl_4 rfl fl_X8_75 rfl rfl
theorem f_X4_9 : zFd RX4 9 3 0 true := zFd_of zcl_3 rfl fl_X4_9 rfl rfl
theorem f_X3_21 : zFd RX3 21 3 0 true := zFd_of zcl_3 rfl fl_X3_21 rfl rfl
theorem f_X8_149 : zFd RX8 149 3 0 true := zFd_of zcl_3 rfl fl_X8_149 rfl rfl
theorem f_X4_15 : zFd RX4 15 3 1 true := zFd_of zcl_3 rfl fl_X4_15 rfl rfl
theorem f_X8_152 : zFd RX8 152 3 1 true := zFd_of zcl_3 rfl fl_X8_152 rfl rfl
theorem f_X4_18 : zFd RX4 18 3 2 true := zFd_of zcl_3 rfl fl_X4_18 rfl rfl
theorem f_X8_155 : zFd RX8 155 3 2 true := zFd_of zcl_3 rfl fl_X8_155 rfl rfl
theorem f_X4_21 : zFd RX4 21 3 3 true := zFd_of zcl_3 rfl fl_X4_21 rfl rfl
theorem f_X8_158 : zFd RX8 158 3 3 true := zFd_of zcl_3 rfl fl_X8_158 rfl rfl
theorem f_X4_24 : zFd RX4 24 3 4 true := zFd_of zcl_3 rfl fl_X4_24 rfl rfl
theorem f_X3_30 : zFd RX3 30 3 4 true := zFd_of zcl_3 rfl fl_X3_30 rfl rfl
theorem f_X8_161 : zFd RX8 161 3 4 true := zFd_of zcl_3 rfl fl_X8_161 rfl rfl
theorem f_X4_27 : zFd RX4 27 3 5 true := zFd_of zcl_3 rfl fl_X4_27 rfl rfl
theorem f_X8_164 : zFd RX8 164 3 5 true := zFd_of zcl_3 rfl fl_X8_164 rfl rfl
theorem f_X4_30 : zFd RX4 30 3 6 true := zFd_of zcl_3 rfl fl_X4_30 rfl rfl
theorem f_X4_33 : zFd RX4 33 3 7 true := zFd_of zcl_3 rfl fl_X4_33 rfl rfl
theorem f_X4_70 : zFd RX4 70 3 8 false := zFd_of zcl_3 rfl fl_X4_70 rfl rfl
theorem f_X4_76 : zFd RX4 76 3 9 false := zFd_of zcl_3 rfl fl_X4_76 rfl rfl
theorem f_X1_11 : zFd RX1 11 0 0 true := zFd_of zcl_0 rfl fl_X1_11 rfl rfl
theorem f_X1_15 : zFd RX1 15 0 1 false := zFd_of zcl_0 rfl fl_X1_15 rfl rfl
theorem f_X1_24 : zFd RX1 24 0 2 false := zFd_of zcl_0 rfl fl_X1_24 rfl rfl
theorem f_X8_97 : zFd RX8 97 0 2 false := zFd_of zcl_0 rfl fl_X8_97 rfl rfl
theorem f_X8_12 : zFd RX8 12 6 0 true := zFd_of zcl_6 rfl fl_X8_12 rfl rfl
theorem f_X8_20 : zFd RX8 20 6 1 true := zFd_of zcl_6 rfl fl_X8_20 rfl rfl
theorem f_X8_24 : zFd RX8 24 6 2 true := zFd_of zcl_6 rfl fl_X8_24 rfl rfl
theorem f_X8_31 : zFd RX8 31 6 3 true := zFd_of zcl_6 rfl fl_X8_31 rfl rfl
theorem f_X8_37 : zFd RX8 37 6 4 true := zFd_of zcl_6 rfl fl_X8_37 rfl rfl
theorem f_X8_44 : zFd RX8 44 6 5 false := zFd_of zcl_6 rfl fl_X8_44 rfl rfl
theorem f_X3_11 : zFd RX3 11 2 0 true := zFd_of zcl_2 rfl fl_X3_11 rfl rfl
theorem f_X8_174 : zFd RX8 174 2 0 true := zFd_of zcl_2 rfl fl_X8_174 rfl rfl
theorem f_X3_15 : zFd RX3 15 2 1 true := zFd_of zcl_2 rfl fl_X3_15 rfl rfl
theorem f_X3_18 : zFd RX3 18 2 2 true := zFd_of zcl_2 rfl fl_X3_18 rfl rfl
theorem f_X9_1 : zFd RX9 1 7 0 false := zFd_of zcl_7 rfl fl_X9_1 rfl rfl
theorem f_X9_7 : zFd RX9 7 7 1 true := zFd_of zcl_7 rfl fl_X9_7 rfl rfl
theorem f_X9_11 : zFd RX9 11 7 2 false := zFd_of zcl_7 rfl fl_X9_11 rfl rfl
theorem f_X9_18 : zFd RX9 18 7 3 false := zFd_of zcl_7 rfl fl_X9_18 rfl rfl
theorem f_X9_21 : zFd RX9 21 7 4 false := zFd_of zcl_7 rfl fl_X9_21 rfl rfl
theorem f_X9_24 : zFd RX9 24 7 5 false := zFd_of zcl_7 rfl fl_X9_24 rfl rfl
theorem f_X9_27 : zFd RX9 27 7 6 false := zFd_of zcl_7 rfl fl_X9_27 rfl rfl
theorem f_X9_41 : zFd RX9 41 7 7 false := zFd_of zcl_7 rfl fl_X9_41 rfl rfl
theorem f_X9_62 : zFd RX9 62 7 8 false := zFd_of zcl_7 rfl fl_X9_62 rfl rfl
theorem f_X9_65 : zFd RX9 65 7 9 false := zFd_of zcl_7 rfl fl_X9_65 rfl rfl
theorem f_X9_37 : zFd RX9 37 7 10 false := zFd_of zcl_7 rfl fl_X9_37 rfl rfl
theorem f_X9_74 : zFd RX9 74 7 11 true := zFd_of zcl_7 rfl fl_X9_74 rfl rfl
theorem f_X9_77 : zFd RX9 77 7 12 true := zFd_of zcl_7 rfl fl_X9_77 rfl rfl
theorem f_X9_80 : zFd RX9 80 7 13 true := zFd_of zcl_7 rfl fl_X9_80 rfl rfl
theorem f_X9_171 : zFd RX9 171 7 14 false := zFd_of zcl_7 rfl fl_X9_171 rfl rfl
theorem f_X9_120 : zFd RX9 120 7 15 false := zFd_of zcl_7 rfl fl_X9_120 rfl rfl
theorem f_X9_83 : zFd RX9 83 7 16 true := zFd_of zcl_7 rfl fl_X9_83 rfl rfl
theorem f_X9_86 : zFd RX9 86 7 17 true := zFd_of zcl_7 rfl fl_X9_86 rfl rfl
theorem f_X9_89 : zFd RX9 89 7 18 true := zFd_of zcl_7 rfl fl_X9_89 rfl rfl
theorem f_X9_92 : zFd RX9 92 7 19 true := zFd_of zcl_7 rfl fl_X9_92 rfl rfl
theorem f_X9_95 : zFd RX9 95 7 20 true := zFd_of zcl_7 rfl fl_X9_95 rfl rfl
theorem f_X9_98 : zFd RX9 98 7 21 true := zFd_of zcl_7 rfl fl_X9_98 rfl rfl
theorem f_X9_101 : zFd RX9 101 7 22 true := zFd_of zcl_7 rfl fl_X9_101 rfl rfl
theorem f_X9_104 : zFd RX9 104 7 23 true := zFd_of zcl_7 rfl fl_X9_104 rfl rfl
theorem f_X9_107 : zFd RX9 107 7 24 true := zFd_of zcl_7 rfl fl_X9_107 rfl rfl
