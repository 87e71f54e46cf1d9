/-! the words of the tables that the walks take: by program out of the tables -/
abbrev MX11_init : MDt := (yX11_init, cX11_init, 3, none)
theorem nX11_init : nMH yX11_init 0 := ⟨by decide +kernel, by decide +kernel, by decide +kernel⟩
abbrev MX4_inOrder : MDt := (yX4_inOrder, cX4_inOrder, 5, (some (FieldType.array (FieldType.object "FeltedWash$Kind"))))
theorem nX4_inOrder : nMH yX4_inOrder 0 := ⟨by decide +kernel, by decide +kernel, by decide +kernel⟩
abbrev MX4_init : MDt := (yX4_init, cX4_init, 3, none)
theorem nX4_init : nMH yX4_init 2 := ⟨by decide +kernel, by decide +kernel, by decide +kernel⟩
abbrev MX10_init : MDt := (yX10_init, cX10_init, 3, none)
theorem nX10_init : nMH yX10_init 2 := ⟨by decide +kernel, by decide +kernel, by decide +kernel⟩
abbrev MX1_init : MDt := (yX1_init, cX1_init, 3, none)
theorem nX1_init : nMH yX1_init 2 := ⟨by decide +kernel, by decide +kernel, by decide +kernel⟩
abbrev MX7_init : MDt := (yX7_init, cX7_init, 3, none)
theorem nX7_init : nMH yX7_init 2 := ⟨by decide +kernel, by decide +kernel, by decide +kernel⟩
abbrev MX3_init : MDt := (yX3_init, cX3_init, 3, none)
theorem nX3_init : nMH yX3_init 2 := ⟨by decide +kernel, by decide +kernel, by decide +kernel⟩
abbrev MX8_init : MDt := (yX8_init, cX8_init, 3, none)
theorem nX8_init : nMH yX8_init 2 := ⟨by decide +kernel, by decide +kernel, by decide +kernel⟩
abbrev MX0_init : MDt := (yX0_init, cX0_init, 3, none)
theorem nX0_init : nMH yX0_init 1 := ⟨by decide +kernel, by decide +kernel, by decide +kernel⟩
abbrev MX2_init : MDt := (yX2_init, cX2_init, 2, none)
theorem nX2_init : nMH yX2_init 1 := ⟨by decide +kernel, by decide +kernel, by decide +kernel⟩
abbrev MX5_init : MDt := (yX5_init, cX5_init, 1, none)
theorem nX5_init : nMH yX5_init 0 := ⟨by decide +kernel, by decide +kernel, by decide +kernel⟩
abbrev MX9_init : MDt := (yX9_init, cX9_init, 1, none)
theorem nX9_init : nMH yX9_init 0 := ⟨by decide +kernel, by decide +kernel, by decide +kernel⟩
abbrev MX6_init : MDt := (yX6_init, cX6_init, 1, none)
theorem nX6_init : nMH yX6_init 0 := ⟨by decide +kernel, by decide +kernel, by decide +kernel⟩
abbrev MX11_machine : MDt := (yX11_machine, cX11_machine, 4, (some FieldType.int))
theorem nX11_machine : nMH yX11_machine 2 := ⟨by decide +kernel, by decide +kernel, by decide +kernel⟩
abbrev MX11_within : MDt := (yX11_within, cX11_within, 3, (some FieldType.boolean))
theorem nX11_within : nMH yX11_within 3 := ⟨by decide +kernel, by decide +kernel, by decide +kernel⟩
abbrev MX11_refuse : MDt := (yX11_refuse, cX11_refuse, 3, (some FieldType.int))
theorem nX11_refuse : nMH yX11_refuse 1 := ⟨by decide +kernel, by decide +kernel, by decide +kernel⟩
abbrev MX11_now : MDt := (yX11_now, cX11_now, 2, (some FieldType.int))
theorem nX11_now : nMH yX11_now 1 := ⟨by decide +kernel, by decide +kernel, by decide +kernel⟩
abbrev MX0_wetOnes : MDt := (yX0_wetOnes, cX0_wetOnes, 3, (some FieldType.int))
theorem nX0_wetOnes : nMH yX0_wetOnes 0 := ⟨by decide +kernel, by decide +kernel, by decide +kernel⟩
abbrev MX0_onesWithHoles : MDt := (yX0_onesWithHoles, cX0_onesWithHoles, 3, (some FieldType.int))
theorem nX0_onesWithHoles : nMH yX0_onesWithHoles 0 := ⟨by decide +kernel, by decide +kernel, by decide +kernel⟩
abbrev MX0_onesForAnybody : MDt := (yX0_onesForAnybody, cX0_onesForAnybody, 3, (some FieldType.int))
theorem nX0_onesForAnybody : nMH yX0_onesForAnybody 0 := ⟨by decide +kernel, by decide +kernel, by decide +kernel⟩
abbrev MX0_onesFor : MDt := (yX0_onesFor, cX0_onesFor, 4, (some FieldType.int))
theorem nX0_onesFor : nMH yX0_onesFor 1 := ⟨by decide +kernel, by decide +kernel, by decide +kernel⟩
abbrev MX2_suits : MDt := (yX2_suits, cX2_suits, 2, (some FieldType.boolean))
theorem nX2_suits : nMH yX2_suits 1 := ⟨by decide +kernel, by decide +kernel, by decide +kernel⟩
abbrev MX11_garment : MDt := (yX11_garment, cX11_garment, 3, (some FieldType.int))
theorem nX11_garment : nMH yX11_garment 1 := ⟨by decide +kernel, by decide +kernel, by decide +kernel⟩
abbrev MX11_isKind : MDt := (yX11_isKind, cX11_isKind, 1, (some FieldType.boolean))
theorem nX11_isKind : nMH yX11_isKind 1 := ⟨by decide +kernel, by decide +kernel, by decide +kernel⟩
abbrev MX0_addGarment : MDt := (yX0_addGarment, cX0_addGarment, 4, (some (FieldType.object "FeltedWash$Garment")))
theorem nX0_addGarment : nMH yX0_addGarment 1 := ⟨by decide +kernel, by decide +kernel, by decide +kernel⟩
abbrev MX0_kindAt : MDt := (yX0_kindAt, cX0_kindAt, 2, (some (FieldType.object "FeltedWash$Kind")))
theorem nX0_kindAt : nMH yX0_kindAt 1 := ⟨by decide +kernel, by decide +kernel, by decide +kernel⟩
abbrev MX2_beNew : MDt := (yX2_beNew, cX2_beNew, 2, none)
theorem nX2_beNew : nMH yX2_beNew 1 := ⟨by decide +kernel, by decide +kernel, by decide +kernel⟩
abbrev MX11_of : MDt := (yX11_of, cX11_of, 5, (some FieldType.int))
theorem nX11_of : nMH yX11_of 2 := ⟨by decide +kernel, by decide +kernel, by decide +kernel⟩
abbrev MX0_garmentAt : MDt := (yX0_garmentAt, cX0_garmentAt, 2, (some (FieldType.object "FeltedWash$Garment")))
theorem nX0_garmentAt : nMH yX0_garmentAt 1 := ⟨by decide +kernel, by decide +kernel, by decide +kernel⟩
abbrev MX1_shrinks : MDt := (yX1_shrinks, cX1_shrinks, 3, (some FieldType.int))
theorem nX1_shrinks : nMH yX1_shrinks 2 := ⟨by decide +kernel, by decide +kernel, by decide +kernel⟩
abbrev MX3_shrinks : MDt := (yX3_shrinks, cX3_shrinks, 4, (some FieldType.int))
theorem nX3_shrinks : nMH yX3_shrinks 2 := ⟨by decide +kernel, by decide +kernel, by decide +kernel⟩
abbrev MX10_shrinks : MDt := (yX10_shrinks, cX10_shrinks, 3, (some FieldType.int))
theorem nX10_shrinks : nMH yX10_shrinks 2 := ⟨by decide +kernel, by decide +kernel, by decide +kernel⟩
abbrev MX7_shrinks : MDt := (yX7_shrinks, cX7_shrinks, 3, (some FieldType.int))
theorem nX7_shrinks : nMH yX7_shrinks 2 := ⟨by decide +kernel, by decide +kernel, by decide +kernel⟩
abbrev MX8_shrinks : MDt := (yX8_shrinks, cX8_shrinks, 3, (some FieldType.int))
theorem nX8_shrinks : nMH yX8_shrinks 2 := ⟨by decide +kernel, by decide +kernel, by decide +kernel⟩
abbrev MX4_shrinks : MDt := (yX4_shrinks, cX4_shrinks, 3, (some FieldType.int))
theorem nX4_shrinks : nMH yX4_shrinks 2 := ⟨by decide +kernel, by decide +kernel, by decide +kernel⟩
abbrev MX3_felts : MDt := (yX3_felts, cX3_felts, 2, (some FieldType.int))
theorem nX3_felts : nMH yX3_felts 1 := ⟨by decide +kernel, by decide +kernel, by decide +kernel⟩
abbrev MX10_felts : MDt := (yX10_felts, cX10_felts, 2, (some FieldType.int))
theorem nX10_felts : nMH yX10_felts 1 := ⟨by decide +kernel, by decide +kernel, by decide +kernel⟩
abbrev MX8_felts : MDt := (yX8_felts, cX8_felts, 2, (some FieldType.int))
theorem nX8_felts : nMH yX8_felts 1 := ⟨by decide +kernel, by decide +kernel, by decide +kernel⟩
abbrev MX4_felts : MDt := (yX4_felts, cX4_felts, 2, (some FieldType.int))
theorem nX4_felts : nMH yX4_felts 1 := ⟨by decide +kernel, by decide +kernel, by decide +kernel⟩
abbrev MX1_bears : MDt := (yX1_bears, cX1_bears, 3, (some FieldType.int))
theorem nX1_bears : nMH yX1_bears 2 := ⟨by decide +kernel, by decide +kernel, by decide +kernel⟩
abbrev MX3_bears : MDt := (yX3_bears, cX3_bears, 3, (some FieldType.int))
theorem nX3_bears : nMH yX3_bears 2 := ⟨by decide +kernel, by decide +kernel, by decide +kernel⟩
abbrev MX10_bears : MDt := (yX10_bears, cX10_bears, 3, (some FieldType.int))
theorem nX10_bears : nMH yX10_bears 2 := ⟨by decide +kernel, by decide +kernel, by decide +kernel⟩
abbrev MX7_bears : MDt := (yX7_bears, cX7_bears, 3, (some FieldType.int))
theorem nX7_bears : nMH yX7_bears 2 := ⟨by decide +kernel, by decide +kernel, by decide +kernel⟩
abbrev MX8_bears : MDt := (yX8_bears, cX8_bears, 3, (some FieldType.int))
theorem nX8_bears : nMH yX8_bears 2 := ⟨by decide +kernel, by decide +kernel, by decide +kernel⟩
abbrev MX4_bears : MDt := (yX4_bears, cX4_bears, 3, (some FieldType.int))
theorem nX4_bears : nMH yX4_bears 2 := ⟨by decide +kernel, by decide +kernel, by decide +kernel⟩
abbrev MX1_keeps : MDt := (yX1_keeps, cX1_keeps, 1, (some FieldType.int))
theorem nX1_keeps : nMH yX1_keeps 0 := ⟨by decide +kernel, by decide +kernel, by decide +kernel⟩
abbrev MX3_keeps : MDt := (yX3_keeps, cX3_keeps, 1, (some FieldType.int))
theorem nX3_keeps : nMH yX3_keeps 0 := ⟨by decide +kernel, by decide +kernel, by decide +kernel⟩
abbrev MX7_keeps : MDt := (yX7_keeps, cX7_keeps, 1, (some FieldType.int))
theorem nX7_keeps : nMH yX7_keeps 0 := ⟨by decide +kernel, by decide +kernel, by decide +kernel⟩
abbrev MX4_keeps : MDt := (yX4_keeps, cX4_keeps, 1, (some FieldType.int))
theorem nX4_keeps : nMH yX4_keeps 0 := ⟨by decide +kernel, by decide +kernel, by decide +kernel⟩
abbrev MX11_set : MDt := (yX11_set, cX11_set, 6, (some FieldType.int))
theorem nX11_set : nMH yX11_set 3 := ⟨by decide +kernel, by decide +kernel, by decide +kernel⟩
abbrev MX11_maySet : MDt := (yX11_maySet, cX11_maySet, 2, (some FieldType.boolean))
theorem nX11_maySet : nMH yX11_maySet 2 := ⟨by decide +kernel, by decide +kernel, by decide +kernel⟩
abbrev MX11_isSpan : MDt := (yX11_isSpan, cX11_isSpan, 1, (some FieldType.boolean))
theorem nX11_isSpan : nMH yX11_isSpan 1 := ⟨by decide +kernel, by decide +kernel, by decide +kernel⟩
abbrev MX11_wash : MDt := (yX11_wash, cX11_wash, 3, (some FieldType.int))
theorem nX11_wash : nMH yX11_wash 1 := ⟨by decide +kernel, by decide +kernel, by decide +kernel⟩
abbrev MX2_goThroughWash : MDt := (yX2_goThroughWash, cX2_goThroughWash, 4, none)
theorem nX2_goThroughWash : nMH yX2_goThroughWash 2 := ⟨by decide +kernel, by decide +kernel, by decide +kernel⟩
abbrev MJ9_max_7cf53 : MDt := (yJ9_max_7cf53, cJ9_max_7cf53, 2, (some FieldType.int))
theorem nJ9_max_7cf53 : nMH yJ9_max_7cf53 2 := ⟨by decide +kernel, by decide +kernel, by decide +kernel⟩
abbrev MJ9_min_7cf53 : MDt := (yJ9_min_7cf53, cJ9_min_7cf53, 2, (some FieldType.int))
theorem nJ9_min_7cf53 : nMH yJ9_min_7cf53 2 := ⟨by decide +kernel, by decide +kernel, by decide +kernel⟩
abbrev MX11_draw : MDt := (yX11_draw, cX11_draw, 4, (some FieldType.int))
theorem nX11_draw : nMH yX11_draw 2 := ⟨by decide +kernel, by decide +kernel, by decide +kernel⟩
abbrev MX2_stretch : MDt := (yX2_stretch, cX2_stretch, 2, none)
theorem nX2_stretch : nMH yX2_stretch 1 := ⟨by decide +kernel, by decide +kernel, by decide +kernel⟩
abbrev MX11_turn : MDt := (yX11_turn, cX11_turn, 6, (some FieldType.int))
theorem nX11_turn : nMH yX11_turn 2 := ⟨by decide +kernel, by decide +kernel, by decide +kernel⟩
abbrev MX11_as : MDt := (yX11_as, cX11_as, 4, (some FieldType.int))
theorem nX11_as : nMH yX11_as 2 := ⟨by decide +kernel, by decide +kernel, by decide +kernel⟩
abbrev MX4_isOrIsUnder : MDt := (yX4_isOrIsUnder, cX4_isOrIsUnder, 3, (some FieldType.boolean))
theorem nX4_isOrIsUnder : nMH yX4_isOrIsUnder 1 := ⟨by decide +kernel, by decide +kernel, by decide +kernel⟩
abbrev MX11_person : MDt := (yX11_person, cX11_person, 4, (some FieldType.int))
theorem nX11_person : nMH yX11_person 2 := ⟨by decide +kernel, by decide +kernel, by decide +kernel⟩
abbrev MX0_addPerson : MDt := (yX0_addPerson, cX0_addPerson, 4, (some (FieldType.object "FeltedWash$Person")))
theorem nX0_addPerson : nMH yX0_addPerson 2 := ⟨by decide +kernel, by decide +kernel, by decide +kernel⟩
abbrev MX11_size : MDt := (yX11_size, cX11_size, 4, (some FieldType.int))
theorem nX11_size : nMH yX11_size 2 := ⟨by decide +kernel, by decide +kernel, by decide +kernel⟩
abbrev MX0_personAt : MDt := (yX0_personAt, cX0_personAt, 2, (some (FieldType.object "FeltedWash$Person")))
theorem nX0_personAt : nMH yX0_personAt 1 := ⟨by decide +kernel, by decide +kernel, by decide +kernel⟩
abbrev MX11_fits : MDt := (yX11_fits, cX11_fits, 3, (some FieldType.int))
theorem nX11_fits : nMH yX11_fits 1 := ⟨by decide +kernel, by decide +kernel, by decide +kernel⟩
abbrev MX11_days : MDt := (yX11_days, cX11_days, 2, (some FieldType.int))
theorem nX11_days : nMH yX11_days 1 := ⟨by decide +kernel, by decide +kernel, by decide +kernel⟩
abbrev MX0_letDaysGo : MDt := (yX0_letDaysGo, cX0_letDaysGo, 3, none)
theorem nX0_letDaysGo : nMH yX0_letDaysGo 1 := ⟨by decide +kernel, by decide +kernel, by decide +kernel⟩
abbrev MX2_dryFor : MDt := (yX2_dryFor, cX2_dryFor, 3, none)
theorem nX2_dryFor : nMH yX2_dryFor 1 := ⟨by decide +kernel, by decide +kernel, by decide +kernel⟩
abbrev MX2_dryOneDay : MDt := (yX2_dryOneDay, cX2_dryOneDay, 1, none)
theorem nX2_dryOneDay : nMH yX2_dryOneDay 0 := ⟨by decide +kernel, by decide +kernel, by decide +kernel⟩
abbrev MX11_on : MDt := (yX11_on, cX11_on, 5, (some FieldType.int))
theorem nX11_on : nMH yX11_on 3 := ⟨by decide +kernel, by decide +kernel, by decide +kernel⟩
abbrev MX2_become : MDt := (yX2_become, cX2_become, 2, none)
theorem nX2_become : nMH yX2_become 1 := ⟨by decide +kernel, by decide +kernel, by decide +kernel⟩
abbrev MX11_again : MDt := (yX11_again, cX11_again, 5, (some FieldType.int))
theorem nX11_again : nMH yX11_again 3 := ⟨by decide +kernel, by decide +kernel, by decide +kernel⟩
abbrev MX11_tryWashes : MDt := (yX11_tryWashes, cX11_tryWashes, 3, none)
theorem nX11_tryWashes : nMH yX11_tryWashes 2 := ⟨by decide +kernel, by decide +kernel, by decide +kernel⟩
abbrev MX2_goThroughWashes : MDt := (yX2_goThroughWashes, cX2_goThroughWashes, 5, none)
theorem nX2_goThroughWashes : nMH yX2_goThroughWashes 3 := ⟨by decide +kernel, by decide +kernel, by decide +kernel⟩
abbrev MX11_washes : MDt := (yX11_washes, cX11_washes, 6, (some FieldType.int))
theorem nX11_washes : nMH yX11_washes 2 := ⟨by decide +kernel, by decide +kernel, by decide +kernel⟩
abbrev MX11_wouldSuit : MDt := (yX11_wouldSuit, cX11_wouldSuit, 6, (some FieldType.boolean))
theorem nX11_wouldSuit : nMH yX11_wouldSuit 5 := ⟨by decide +kernel, by decide +kernel, by decide +kernel⟩
abbrev MX11_warmest : MDt := (yX11_warmest, cX11_warmest, 6, (some FieldType.int))
theorem nX11_warmest : nMH yX11_warmest 2 := ⟨by decide +kernel, by decide +kernel, by decide +kernel⟩
abbrev MX11_pull : MDt := (yX11_pull, cX11_pull, 6, (some FieldType.int))
theorem nX11_pull : nMH yX11_pull 2 := ⟨by decide +kernel, by decide +kernel, by decide +kernel⟩
abbrev MX11_kind : MDt := (yX11_kind, cX11_kind, 7, (some FieldType.int))
theorem nX11_kind : nMH yX11_kind 2 := ⟨by decide +kernel, by decide +kernel, by decide +kernel⟩
abbrev MX11_tryAs : MDt := (yX11_tryAs, cX11_tryAs, 4, (some FieldType.boolean))
theorem nX11_tryAs : nMH yX11_tryAs 2 := ⟨by decide +kernel, by decide +kernel, by decide +kernel⟩
abbrev MX11_dressed : MDt := (yX11_dressed, cX11_dressed, 2, (some FieldType.int))
theorem nX11_dressed : nMH yX11_dressed 1 := ⟨by decide +kernel, by decide +kernel, by decide +kernel⟩
abbrev MX0_become : MDt := (yX0_become, cX0_become, 3, none)
theorem nX0_become : nMH yX0_become 1 := ⟨by decide +kernel, by decide +kernel, by decide +kernel⟩
abbrev MX0_bestDressed : MDt := (yX0_bestDressed, cX0_bestDressed, 5, (some FieldType.int))
theorem nX0_bestDressed : nMH yX0_bestDressed 0 := ⟨by decide +kernel, by decide +kernel, by decide +kernel⟩
abbrev MJ6_bitCount_0f7a4 : MDt := (yJ6_bitCount_0f7a4, cJ6_bitCount_0f7a4, 1, (some FieldType.int))
theorem nJ6_bitCount_0f7a4 : nMH yJ6_bitCount_0f7a4 1 := ⟨by decide +kernel, by decide +kernel, by decide +kernel⟩
abbrev MX11_shortest : MDt := (yX11_shortest, cX11_shortest, 6, (some FieldType.int))
theorem nX11_shortest : nMH yX11_shortest 1 := ⟨by decide +kernel, by decide +kernel, by decide +kernel⟩
abbrev MX11_feed : MDt := (yX11_feed, cX11_feed, 4, (some FieldType.int))
theorem nX11_feed : nMH yX11_feed 2 := ⟨by decide +kernel, by decide +kernel, by decide +kernel⟩
abbrev MX9_append : MDt := (yX9_append, cX9_append, 2, none)
theorem nX9_append : nMH yX9_append 1 := ⟨by decide +kernel, by decide +kernel, by decide +kernel⟩
abbrev MX11_wipe : MDt := (yX11_wipe, cX11_wipe, 1, (some FieldType.int))
theorem nX11_wipe : nMH yX11_wipe 0 := ⟨by decide +kernel, by decide +kernel, by decide +kernel⟩
abbrev MX9_clear : MDt := (yX9_clear, cX9_clear, 2, (some FieldType.int))
theorem nX9_clear : nMH yX9_clear 0 := ⟨by decide +kernel, by decide +kernel, by decide +kernel⟩
abbrev MX11_basket : MDt := (yX11_basket, cX11_basket, 2, (some FieldType.int))
theorem nX11_basket : nMH yX11_basket 0 := ⟨by decide +kernel, by decide +kernel, by decide +kernel⟩
abbrev MX9_tellInto : MDt := (yX9_tellInto, cX9_tellInto, 3, (some FieldType.int))
theorem nX9_tellInto : nMH yX9_tellInto 1 := ⟨by decide +kernel, by decide +kernel, by decide +kernel⟩
abbrev MX9_nextToken : MDt := (yX9_nextToken, cX9_nextToken, 1, none)
theorem nX9_nextToken : nMH yX9_nextToken 0 := ⟨by decide +kernel, by decide +kernel, by decide +kernel⟩
abbrev MX9_byteAt : MDt := (yX9_byteAt, cX9_byteAt, 2, (some FieldType.int))
theorem nX9_byteAt : nMH yX9_byteAt 1 := ⟨by decide +kernel, by decide +kernel, by decide +kernel⟩
abbrev MX9_isLetter : MDt := (yX9_isLetter, cX9_isLetter, 1, (some FieldType.boolean))
theorem nX9_isLetter : nMH yX9_isLetter 1 := ⟨by decide +kernel, by decide +kernel, by decide +kernel⟩
abbrev MX9_isDigit : MDt := (yX9_isDigit, cX9_isDigit, 1, (some FieldType.boolean))
theorem nX9_isDigit : nMH yX9_isDigit 1 := ⟨by decide +kernel, by decide +kernel, by decide +kernel⟩
abbrev MX9_takeItem : MDt := (yX9_takeItem, cX9_takeItem, 4, (some FieldType.boolean))
theorem nX9_takeItem : nMH yX9_takeItem 1 := ⟨by decide +kernel, by decide +kernel, by decide +kernel⟩
abbrev MX9_kindNamed : MDt := (yX9_kindNamed, cX9_kindNamed, 1, (some FieldType.int))
theorem nX9_kindNamed : nMH yX9_kindNamed 0 := ⟨by decide +kernel, by decide +kernel, by decide +kernel⟩
abbrev MX9_isWord : MDt := (yX9_isWord, cX9_isWord, 3, (some FieldType.boolean))
theorem nX9_isWord : nMH yX9_isWord 1 := ⟨by decide +kernel, by decide +kernel, by decide +kernel⟩
abbrev MJ0_length_8abf5 : MDt := (yJ0_length_8abf5, cJ0_length_8abf5, 1, (some FieldType.int))
theorem nJ0_length_8abf5 : nMH yJ0_length_8abf5 0 := ⟨by decide +kernel, by decide +kernel, by decide +kernel⟩
abbrev MJ0_coder_7d493 : MDt := (yJ0_coder_7d493, cJ0_coder_7d493, 1, (some FieldType.byte))
theorem nJ0_coder_7d493 : nMH yJ0_coder_7d493 0 := ⟨by decide +kernel, by decide +kernel, by decide +kernel⟩
abbrev MJ0_charAt_5068e : MDt := (yJ0_charAt_5068e, cJ0_charAt_5068e, 2, (some FieldType.char))
theorem nJ0_charAt_5068e : nMH yJ0_charAt_5068e 1 := ⟨by decide +kernel, by decide +kernel, by decide +kernel⟩
abbrev MJ0_isLatin1_aae02 : MDt := (yJ0_isLatin1_aae02, cJ0_isLatin1_aae02, 1, (some FieldType.boolean))
theorem nJ0_isLatin1_aae02 : nMH yJ0_isLatin1_aae02 0 := ⟨by decide +kernel, by decide +kernel, by decide +kernel⟩
abbrev MJ1_charAt_3b067 : MDt := (yJ1_charAt_3b067, cJ1_charAt_3b067, 2, (some FieldType.char))
theorem nJ1_charAt_3b067 : nMH yJ1_charAt_3b067 2 := ⟨by decide +kernel, by decide +kernel, by decide +kernel⟩
abbrev MJ0_checkIndex_df160 : MDt := (yJ0_checkIndex_df160, cJ0_checkIndex_df160, 2, none)
theorem nJ0_checkIndex_df160 : nMH yJ0_checkIndex_df160 2 := ⟨by decide +kernel, by decide +kernel, by decide +kernel⟩
abbrev MJ3_checkIndex_8e157 : MDt := (yJ3_checkIndex_8e157, cJ3_checkIndex_8e157, 3, (some FieldType.int))
theorem nJ3_checkIndex_8e157 : nMH yJ3_checkIndex_8e157 3 := ⟨by decide +kernel, by decide +kernel, by decide +kernel⟩
abbrev MJ2_charAt_3b067 : MDt := (yJ2_charAt_3b067, cJ2_charAt_3b067, 2, (some FieldType.char))
theorem nJ2_charAt_3b067 : nMH yJ2_charAt_3b067 2 := ⟨by decide +kernel, by decide +kernel, by decide +kernel⟩
abbrev MJ2_checkIndex_2214a : MDt := (yJ2_checkIndex_2214a, cJ2_checkIndex_2214a, 2, none)
theorem nJ2_checkIndex_2214a : nMH yJ2_checkIndex_2214a 2 := ⟨by decide +kernel, by decide +kernel, by decide +kernel⟩
abbrev MJ2_length_9d52b : MDt := (yJ2_length_9d52b, cJ2_length_9d52b, 1, (some FieldType.int))
theorem nJ2_length_9d52b : nMH yJ2_length_9d52b 1 := ⟨by decide +kernel, by decide +kernel, by decide +kernel⟩
abbrev MJ2_getChar_3b067 : MDt := (yJ2_getChar_3b067, cJ2_getChar_3b067, 2, (some FieldType.char))
theorem nJ2_getChar_3b067 : nMH yJ2_getChar_3b067 2 := ⟨by decide +kernel, by decide +kernel, by decide +kernel⟩
abbrev MX9_takeSpans : MDt := (yX9_takeSpans, cX9_takeSpans, 2, (some FieldType.boolean))
theorem nX9_takeSpans : nMH yX9_takeSpans 1 := ⟨by decide +kernel, by decide +kernel, by decide +kernel⟩
abbrev MX9_takeTwoSpans : MDt := (yX9_takeTwoSpans, cX9_takeTwoSpans, 1, (some FieldType.boolean))
theorem nX9_takeTwoSpans : nMH yX9_takeTwoSpans 0 := ⟨by decide +kernel, by decide +kernel, by decide +kernel⟩
abbrev MX9_isNumber : MDt := (yX9_isNumber, cX9_isNumber, 3, (some FieldType.boolean))
theorem nX9_isNumber : nMH yX9_isNumber 2 := ⟨by decide +kernel, by decide +kernel, by decide +kernel⟩
abbrev MX9_takeThickness : MDt := (yX9_takeThickness, cX9_takeThickness, 2, (some FieldType.boolean))
theorem nX9_takeThickness : nMH yX9_takeThickness 1 := ⟨by decide +kernel, by decide +kernel, by decide +kernel⟩
abbrev MX9_takePerson : MDt := (yX9_takePerson, cX9_takePerson, 2, (some FieldType.boolean))
theorem nX9_takePerson : nMH yX9_takePerson 1 := ⟨by decide +kernel, by decide +kernel, by decide +kernel⟩
abbrev MX9_takeDegrees : MDt := (yX9_takeDegrees, cX9_takeDegrees, 2, (some FieldType.boolean))
theorem nX9_takeDegrees : nMH yX9_takeDegrees 1 := ⟨by decide +kernel, by decide +kernel, by decide +kernel⟩
abbrev MX9_takeWash : MDt := (yX9_takeWash, cX9_takeWash, 3, (some FieldType.boolean))
theorem nX9_takeWash : nMH yX9_takeWash 1 := ⟨by decide +kernel, by decide +kernel, by decide +kernel⟩
abbrev MX11_sheet : MDt := (yX11_sheet, cX11_sheet, 5, (some FieldType.int))
theorem nX11_sheet : nMH yX11_sheet 3 := ⟨by decide +kernel, by decide +kernel, by decide +kernel⟩
abbrev MX11_sheetAt : MDt := (yX11_sheetAt, cX11_sheetAt, 2, (some (FieldType.object "FeltedWash$Sheet")))
theorem nX11_sheetAt : nMH yX11_sheetAt 1 := ⟨by decide +kernel, by decide +kernel, by decide +kernel⟩
abbrev MX6_beginAnew : MDt := (yX6_beginAnew, cX6_beginAnew, 4, none)
theorem nX6_beginAnew : nMH yX6_beginAnew 2 := ⟨by decide +kernel, by decide +kernel, by decide +kernel⟩
abbrev MX11_write : MDt := (yX11_write, cX11_write, 8, (some FieldType.long))
theorem nX11_write : nMH yX11_write 3 := ⟨by decide +kernel, by decide +kernel, by decide +kernel⟩
abbrev MX6_isMissing : MDt := (yX6_isMissing, cX6_isMissing, 1, (some FieldType.boolean))
theorem nX6_isMissing : nMH yX6_isMissing 0 := ⟨by decide +kernel, by decide +kernel, by decide +kernel⟩
abbrev MX6_put : MDt := (yX6_put, cX6_put, 4, none)
theorem nX6_put : nMH yX6_put 2 := ⟨by decide +kernel, by decide +kernel, by decide +kernel⟩
abbrev MX6_lowestBits : MDt := (yX6_lowestBits, cX6_lowestBits, 3, (some FieldType.long))
theorem nX6_lowestBits : nMH yX6_lowestBits 1 := ⟨by decide +kernel, by decide +kernel, by decide +kernel⟩
abbrev MX11_copy : MDt := (yX11_copy, cX11_copy, 8, (some FieldType.int))
theorem nX11_copy : nMH yX11_copy 5 := ⟨by decide +kernel, by decide +kernel, by decide +kernel⟩
abbrev MX6_hasRun : MDt := (yX6_hasRun, cX6_hasRun, 3, (some FieldType.boolean))
theorem nX6_hasRun : nMH yX6_hasRun 2 := ⟨by decide +kernel, by decide +kernel, by decide +kernel⟩
abbrev MX11_lays : MDt := (yX11_lays, cX11_lays, 8, (some FieldType.int))
theorem nX11_lays : nMH yX11_lays 1 := ⟨by decide +kernel, by decide +kernel, by decide +kernel⟩
abbrev MX11_book : MDt := (yX11_book, cX11_book, 6, (some FieldType.int))
theorem nX11_book : nMH yX11_book 2 := ⟨by decide +kernel, by decide +kernel, by decide +kernel⟩
abbrev MX11_read : MDt := (yX11_read, cX11_read, 8, (some FieldType.int))
theorem nX11_read : nMH yX11_read 2 := ⟨by decide +kernel, by decide +kernel, by decide +kernel⟩
abbrev MX11_explains : MDt := (yX11_explains, cX11_explains, 6, (some FieldType.boolean))
theorem nX11_explains : nMH yX11_explains 4 := ⟨by decide +kernel, by decide +kernel, by decide +kernel⟩
abbrev MX11_image : MDt := (yX11_image, cX11_image, 1, (some FieldType.int))
theorem nX11_image : nMH yX11_image 0 := ⟨by decide +kernel, by decide +kernel, by decide +kernel⟩
abbrev MX11_undo : MDt := (yX11_undo, cX11_undo, 1, (some FieldType.int))
theorem nX11_undo : nMH yX11_undo 0 := ⟨by decide +kernel, by decide +kernel, by decide +kernel⟩
abbrev MX11_tear : MDt := (yX11_tear, cX11_tear, 2, (some FieldType.int))
theorem nX11_tear : nMH yX11_tear 0 := ⟨by decide +kernel, by decide +kernel, by decide +kernel⟩
abbrev MX11_count : MDt := (yX11_count, cX11_count, 2, (some FieldType.int))
theorem nX11_count : nMH yX11_count 1 := ⟨by decide +kernel, by decide +kernel, by decide +kernel⟩
abbrev MX0_allHoles : MDt := (yX0_allHoles, cX0_allHoles, 3, (some FieldType.int))
theorem nX0_allHoles : nMH yX0_allHoles 0 := ⟨by decide +kernel, by decide +kernel, by decide +kernel⟩
abbrev MX11_status : MDt := (yX11_status, cX11_status, 4, (some FieldType.int))
theorem nX11_status : nMH yX11_status 1 := ⟨by decide +kernel, by decide +kernel, by decide +kernel⟩
abbrev MX12_init : MDt := (yX12_init, cX12_init, 1, none)
theorem nX12_init : nMH yX12_init 0 := ⟨by decide +kernel, by decide +kernel, by decide +kernel⟩
abbrev MX12_machine : MDt := (yX12_machine, cX12_machine, 4, (some FieldType.int))
theorem nX12_machine : nMH yX12_machine 2 := ⟨by decide +kernel, by decide +kernel, by decide +kernel⟩
abbrev MX12_in : MDt := (yX12_in, cX12_in, 6, (some FieldType.boolean))
theorem nX12_in : nMH yX12_in 3 := ⟨by decide +kernel, by decide +kernel, by decide +kernel⟩
abbrev MX12_becomes : MDt := (yX12_becomes, cX12_becomes, 4, (some FieldType.int))
theorem nX12_becomes : nMH yX12_becomes 2 := ⟨by decide +kernel, by decide +kernel, by decide +kernel⟩
abbrev MX12_finds : MDt := (yX12_finds, cX12_finds, 2, (some FieldType.int))
theorem nX12_finds : nMH yX12_finds 1 := ⟨by decide +kernel, by decide +kernel, by decide +kernel⟩
abbrev MX12_now : MDt := (yX12_now, cX12_now, 2, (some FieldType.int))
theorem nX12_now : nMH yX12_now 1 := ⟨by decide +kernel, by decide +kernel, by decide +kernel⟩
abbrev MX12_wetOnes : MDt := (yX12_wetOnes, cX12_wetOnes, 3, (some FieldType.int))
theorem nX12_wetOnes : nMH yX12_wetOnes 0 := ⟨by decide +kernel, by decide +kernel, by decide +kernel⟩
abbrev MX12_its : MDt := (yX12_its, cX12_its, 3, (some FieldType.int))
theorem nX12_its : nMH yX12_its 2 := ⟨by decide +kernel, by decide +kernel, by decide +kernel⟩
abbrev MX12_spot : MDt := (yX12_spot, cX12_spot, 2, (some FieldType.int))
theorem nX12_spot : nMH yX12_spot 2 := ⟨by decide +kernel, by decide +kernel, by decide +kernel⟩
abbrev MX12_holedOnes : MDt := (yX12_holedOnes, cX12_holedOnes, 3, (some FieldType.int))
theorem nX12_holedOnes : nMH yX12_holedOnes 0 := ⟨by decide +kernel, by decide +kernel, by decide +kernel⟩
abbrev MX12_fittingAny : MDt := (yX12_fittingAny, cX12_fittingAny, 3, (some FieldType.int))
theorem nX12_fittingAny : nMH yX12_fittingAny 0 := ⟨by decide +kernel, by decide +kernel, by decide +kernel⟩
abbrev MX12_fittingOnes : MDt := (yX12_fittingOnes, cX12_fittingOnes, 4, (some FieldType.int))
theorem nX12_fittingOnes : nMH yX12_fittingOnes 1 := ⟨by decide +kernel, by decide +kernel, by decide +kernel⟩
abbrev MX12_isFitting : MDt := (yX12_isFitting, cX12_isFitting, 5, (some FieldType.boolean))
theorem nX12_isFitting : nMH yX12_isFitting 2 := ⟨by decide +kernel, by decide +kernel, by decide +kernel⟩
abbrev MX12_sizeOfOne : MDt := (yX12_sizeOfOne, cX12_sizeOfOne, 3, (some FieldType.int))
theorem nX12_sizeOfOne : nMH yX12_sizeOfOne 2 := ⟨by decide +kernel, by decide +kernel, by decide +kernel⟩
abbrev MX12_garment : MDt := (yX12_garment, cX12_garment, 2, (some FieldType.int))
theorem nX12_garment : nMH yX12_garment 1 := ⟨by decide +kernel, by decide +kernel, by decide +kernel⟩
abbrev MX12_isKind : MDt := (yX12_isKind, cX12_isKind, 1, (some FieldType.boolean))
theorem nX12_isKind : nMH yX12_isKind 1 := ⟨by decide +kernel, by decide +kernel, by decide +kernel⟩
abbrev MX12_adds : MDt := (yX12_adds, cX12_adds, 4, (some FieldType.int))
theorem nX12_adds : nMH yX12_adds 1 := ⟨by decide +kernel, by decide +kernel, by decide +kernel⟩
abbrev MX12_of : MDt := (yX12_of, cX12_of, 3, (some FieldType.int))
theorem nX12_of : nMH yX12_of 2 := ⟨by decide +kernel, by decide +kernel, by decide +kernel⟩
abbrev MX12_isGarment : MDt := (yX12_isGarment, cX12_isGarment, 2, (some FieldType.boolean))
theorem nX12_isGarment : nMH yX12_isGarment 1 := ⟨by decide +kernel, by decide +kernel, by decide +kernel⟩
abbrev MX12_shrinksOf : MDt := (yX12_shrinksOf, cX12_shrinksOf, 4, (some FieldType.int))
theorem nX12_shrinksOf : nMH yX12_shrinksOf 1 := ⟨by decide +kernel, by decide +kernel, by decide +kernel⟩
abbrev MX12_feltsOf : MDt := (yX12_feltsOf, cX12_feltsOf, 3, (some FieldType.int))
theorem nX12_feltsOf : nMH yX12_feltsOf 1 := ⟨by decide +kernel, by decide +kernel, by decide +kernel⟩
abbrev MX12_bearsOf : MDt := (yX12_bearsOf, cX12_bearsOf, 3, (some FieldType.int))
theorem nX12_bearsOf : nMH yX12_bearsOf 1 := ⟨by decide +kernel, by decide +kernel, by decide +kernel⟩
abbrev MX12_keepsOf : MDt := (yX12_keepsOf, cX12_keepsOf, 2, (some FieldType.int))
theorem nX12_keepsOf : nMH yX12_keepsOf 1 := ⟨by decide +kernel, by decide +kernel, by decide +kernel⟩
abbrev MX12_set : MDt := (yX12_set, cX12_set, 4, (some FieldType.int))
theorem nX12_set : nMH yX12_set 3 := ⟨by decide +kernel, by decide +kernel, by decide +kernel⟩
abbrev MX12_isSet : MDt := (yX12_isSet, cX12_isSet, 2, (some FieldType.boolean))
theorem nX12_isSet : nMH yX12_isSet 2 := ⟨by decide +kernel, by decide +kernel, by decide +kernel⟩
abbrev MX12_isSize : MDt := (yX12_isSize, cX12_isSize, 2, (some FieldType.boolean))
theorem nX12_isSize : nMH yX12_isSize 1 := ⟨by decide +kernel, by decide +kernel, by decide +kernel⟩
abbrev MX12_wash : MDt := (yX12_wash, cX12_wash, 2, (some FieldType.int))
theorem nX12_wash : nMH yX12_wash 1 := ⟨by decide +kernel, by decide +kernel, by decide +kernel⟩
abbrev MX12_washed : MDt := (yX12_washed, cX12_washed, 4, (some FieldType.int))
theorem nX12_washed : nMH yX12_washed 1 := ⟨by decide +kernel, by decide +kernel, by decide +kernel⟩
abbrev MX12_shrinks : MDt := (yX12_shrinks, cX12_shrinks, 4, none)
theorem nX12_shrinks : nMH yX12_shrinks 3 := ⟨by decide +kernel, by decide +kernel, by decide +kernel⟩
abbrev MX12_held : MDt := (yX12_held, cX12_held, 3, (some FieldType.int))
theorem nX12_held : nMH yX12_held 3 := ⟨by decide +kernel, by decide +kernel, by decide +kernel⟩
abbrev MX12_draw : MDt := (yX12_draw, cX12_draw, 3, (some FieldType.int))
theorem nX12_draw : nMH yX12_draw 2 := ⟨by decide +kernel, by decide +kernel, by decide +kernel⟩
abbrev MX12_drawn : MDt := (yX12_drawn, cX12_drawn, 4, (some FieldType.int))
theorem nX12_drawn : nMH yX12_drawn 2 := ⟨by decide +kernel, by decide +kernel, by decide +kernel⟩
abbrev MX12_turn : MDt := (yX12_turn, cX12_turn, 3, (some FieldType.int))
theorem nX12_turn : nMH yX12_turn 2 := ⟨by decide +kernel, by decide +kernel, by decide +kernel⟩
abbrev MX12_as : MDt := (yX12_as, cX12_as, 3, (some FieldType.int))
theorem nX12_as : nMH yX12_as 2 := ⟨by decide +kernel, by decide +kernel, by decide +kernel⟩
abbrev MX12_isUnder : MDt := (yX12_isUnder, cX12_isUnder, 2, (some FieldType.boolean))
theorem nX12_isUnder : nMH yX12_isUnder 2 := ⟨by decide +kernel, by decide +kernel, by decide +kernel⟩
abbrev MX12_person : MDt := (yX12_person, cX12_person, 3, (some FieldType.int))
theorem nX12_person : nMH yX12_person 2 := ⟨by decide +kernel, by decide +kernel, by decide +kernel⟩
abbrev MX12_addsPerson : MDt := (yX12_addsPerson, cX12_addsPerson, 4, (some FieldType.int))
theorem nX12_addsPerson : nMH yX12_addsPerson 2 := ⟨by decide +kernel, by decide +kernel, by decide +kernel⟩
abbrev MX12_size : MDt := (yX12_size, cX12_size, 3, (some FieldType.int))
theorem nX12_size : nMH yX12_size 2 := ⟨by decide +kernel, by decide +kernel, by decide +kernel⟩
abbrev MX12_isPerson : MDt := (yX12_isPerson, cX12_isPerson, 2, (some FieldType.boolean))
theorem nX12_isPerson : nMH yX12_isPerson 1 := ⟨by decide +kernel, by decide +kernel, by decide +kernel⟩
abbrev MX12_fits : MDt := (yX12_fits, cX12_fits, 2, (some FieldType.int))
theorem nX12_fits : nMH yX12_fits 1 := ⟨by decide +kernel, by decide +kernel, by decide +kernel⟩
abbrev MX12_days : MDt := (yX12_days, cX12_days, 2, (some FieldType.int))
theorem nX12_days : nMH yX12_days 1 := ⟨by decide +kernel, by decide +kernel, by decide +kernel⟩
abbrev MX12_daysGo : MDt := (yX12_daysGo, cX12_daysGo, 4, none)
theorem nX12_daysGo : nMH yX12_daysGo 1 := ⟨by decide +kernel, by decide +kernel, by decide +kernel⟩
abbrev MX12_dries : MDt := (yX12_dries, cX12_dries, 3, none)
theorem nX12_dries : nMH yX12_dries 1 := ⟨by decide +kernel, by decide +kernel, by decide +kernel⟩
abbrev MX12_on : MDt := (yX12_on, cX12_on, 4, (some FieldType.int))
theorem nX12_on : nMH yX12_on 3 := ⟨by decide +kernel, by decide +kernel, by decide +kernel⟩
abbrev MX12_isAhead : MDt := (yX12_isAhead, cX12_isAhead, 1, (some FieldType.boolean))
theorem nX12_isAhead : nMH yX12_isAhead 1 := ⟨by decide +kernel, by decide +kernel, by decide +kernel⟩
abbrev MX12_laysAside : MDt := (yX12_laysAside, cX12_laysAside, 2, none)
theorem nX12_laysAside : nMH yX12_laysAside 0 := ⟨by decide +kernel, by decide +kernel, by decide +kernel⟩
abbrev MX12_takesBack : MDt := (yX12_takesBack, cX12_takesBack, 3, (some FieldType.int))
theorem nX12_takesBack : nMH yX12_takesBack 1 := ⟨by decide +kernel, by decide +kernel, by decide +kernel⟩
abbrev MX12_again : MDt := (yX12_again, cX12_again, 4, (some FieldType.int))
theorem nX12_again : nMH yX12_again 3 := ⟨by decide +kernel, by decide +kernel, by decide +kernel⟩
abbrev MX12_washedTo : MDt := (yX12_washedTo, cX12_washedTo, 4, (some FieldType.int))
theorem nX12_washedTo : nMH yX12_washedTo 3 := ⟨by decide +kernel, by decide +kernel, by decide +kernel⟩
abbrev MX12_isWashed : MDt := (yX12_isWashed, cX12_isWashed, 4, none)
theorem nX12_isWashed : nMH yX12_isWashed 2 := ⟨by decide +kernel, by decide +kernel, by decide +kernel⟩
abbrev MX12_washes : MDt := (yX12_washes, cX12_washes, 5, (some FieldType.int))
theorem nX12_washes : nMH yX12_washes 2 := ⟨by decide +kernel, by decide +kernel, by decide +kernel⟩
abbrev MX12_isFittingBy : MDt := (yX12_isFittingBy, cX12_isFittingBy, 5, (some FieldType.boolean))
theorem nX12_isFittingBy : nMH yX12_isFittingBy 4 := ⟨by decide +kernel, by decide +kernel, by decide +kernel⟩
abbrev MX12_warmest : MDt := (yX12_warmest, cX12_warmest, 6, (some FieldType.int))
theorem nX12_warmest : nMH yX12_warmest 2 := ⟨by decide +kernel, by decide +kernel, by decide +kernel⟩
abbrev MX12_pull : MDt := (yX12_pull, cX12_pull, 5, (some FieldType.int))
theorem nX12_pull : nMH yX12_pull 2 := ⟨by decide +kernel, by decide +kernel, by decide +kernel⟩
abbrev MX12_kind : MDt := (yX12_kind, cX12_kind, 8, (some FieldType.int))
theorem nX12_kind : nMH yX12_kind 2 := ⟨by decide +kernel, by decide +kernel, by decide +kernel⟩
abbrev MX12_dressed : MDt := (yX12_dressed, cX12_dressed, 4, (some FieldType.int))
theorem nX12_dressed : nMH yX12_dressed 1 := ⟨by decide +kernel, by decide +kernel, by decide +kernel⟩
abbrev MX12_manyFitting : MDt := (yX12_manyFitting, cX12_manyFitting, 4, (some FieldType.int))
theorem nX12_manyFitting : nMH yX12_manyFitting 1 := ⟨by decide +kernel, by decide +kernel, by decide +kernel⟩
abbrev MX12_shortest : MDt := (yX12_shortest, cX12_shortest, 6, (some FieldType.int))
theorem nX12_shortest : nMH yX12_shortest 1 := ⟨by decide +kernel, by decide +kernel, by decide +kernel⟩
abbrev MX12_feed : MDt := (yX12_feed, cX12_feed, 4, (some FieldType.int))
theorem nX12_feed : nMH yX12_feed 2 := ⟨by decide +kernel, by decide +kernel, by decide +kernel⟩
abbrev MX12_wipe : MDt := (yX12_wipe, cX12_wipe, 2, (some FieldType.int))
theorem nX12_wipe : nMH yX12_wipe 0 := ⟨by decide +kernel, by decide +kernel, by decide +kernel⟩
abbrev MX12_basket : MDt := (yX12_basket, cX12_basket, 2, (some FieldType.int))
theorem nX12_basket : nMH yX12_basket 0 := ⟨by decide +kernel, by decide +kernel, by decide +kernel⟩
abbrev MX12_saves : MDt := (yX12_saves, cX12_saves, 2, none)
theorem nX12_saves : nMH yX12_saves 0 := ⟨by decide +kernel, by decide +kernel, by decide +kernel⟩
abbrev MX12_token : MDt := (yX12_token, cX12_token, 3, none)
theorem nX12_token : nMH yX12_token 0 := ⟨by decide +kernel, by decide +kernel, by decide +kernel⟩
abbrev MX12_byteAt : MDt := (yX12_byteAt, cX12_byteAt, 2, (some FieldType.int))
theorem nX12_byteAt : nMH yX12_byteAt 1 := ⟨by decide +kernel, by decide +kernel, by decide +kernel⟩
abbrev MX12_isLetter : MDt := (yX12_isLetter, cX12_isLetter, 1, (some FieldType.boolean))
theorem nX12_isLetter : nMH yX12_isLetter 1 := ⟨by decide +kernel, by decide +kernel, by decide +kernel⟩
abbrev MX12_isDigit : MDt := (yX12_isDigit, cX12_isDigit, 1, (some FieldType.boolean))
theorem nX12_isDigit : nMH yX12_isDigit 1 := ⟨by decide +kernel, by decide +kernel, by decide +kernel⟩
abbrev MX12_item : MDt := (yX12_item, cX12_item, 4, none)
theorem nX12_item : nMH yX12_item 0 := ⟨by decide +kernel, by decide +kernel, by decide +kernel⟩
abbrev MX12_kindHere : MDt := (yX12_kindHere, cX12_kindHere, 3, (some FieldType.int))
theorem nX12_kindHere : nMH yX12_kindHere 0 := ⟨by decide +kernel, by decide +kernel, by decide +kernel⟩
abbrev MX12_word : MDt := (yX12_word, cX12_word, 4, (some FieldType.long))
theorem nX12_word : nMH yX12_word 0 := ⟨by decide +kernel, by decide +kernel, by decide +kernel⟩
abbrev MX12_garmentItem : MDt := (yX12_garmentItem, cX12_garmentItem, 3, none)
theorem nX12_garmentItem : nMH yX12_garmentItem 1 := ⟨by decide +kernel, by decide +kernel, by decide +kernel⟩
abbrev MX12_must : MDt := (yX12_must, cX12_must, 2, none)
theorem nX12_must : nMH yX12_must 1 := ⟨by decide +kernel, by decide +kernel, by decide +kernel⟩
abbrev MX12_number : MDt := (yX12_number, cX12_number, 6, none)
theorem nX12_number : nMH yX12_number 2 := ⟨by decide +kernel, by decide +kernel, by decide +kernel⟩
abbrev MX12_personItem : MDt := (yX12_personItem, cX12_personItem, 2, none)
theorem nX12_personItem : nMH yX12_personItem 0 := ⟨by decide +kernel, by decide +kernel, by decide +kernel⟩
abbrev MX12_degreesItem : MDt := (yX12_degreesItem, cX12_degreesItem, 1, none)
theorem nX12_degreesItem : nMH yX12_degreesItem 0 := ⟨by decide +kernel, by decide +kernel, by decide +kernel⟩
abbrev MX12_towelItem : MDt := (yX12_towelItem, cX12_towelItem, 2, none)
theorem nX12_towelItem : nMH yX12_towelItem 1 := ⟨by decide +kernel, by decide +kernel, by decide +kernel⟩
abbrev MX12_washItem : MDt := (yX12_washItem, cX12_washItem, 1, none)
theorem nX12_washItem : nMH yX12_washItem 0 := ⟨by decide +kernel, by decide +kernel, by decide +kernel⟩
abbrev MX12_putsBack : MDt := (yX12_putsBack, cX12_putsBack, 2, none)
theorem nX12_putsBack : nMH yX12_putsBack 0 := ⟨by decide +kernel, by decide +kernel, by decide +kernel⟩
abbrev MX12_sheet : MDt := (yX12_sheet, cX12_sheet, 5, (some FieldType.int))
theorem nX12_sheet : nMH yX12_sheet 3 := ⟨by decide +kernel, by decide +kernel, by decide +kernel⟩
abbrev MX12_isOne : MDt := (yX12_isOne, cX12_isOne, 1, (some FieldType.boolean))
theorem nX12_isOne : nMH yX12_isOne 1 := ⟨by decide +kernel, by decide +kernel, by decide +kernel⟩
abbrev MX12_write : MDt := (yX12_write, cX12_write, 8, (some FieldType.long))
theorem nX12_write : nMH yX12_write 3 := ⟨by decide +kernel, by decide +kernel, by decide +kernel⟩
abbrev MX12_wrongSheet : MDt := (yX12_wrongSheet, cX12_wrongSheet, 2, (some FieldType.int))
theorem nX12_wrongSheet : nMH yX12_wrongSheet 1 := ⟨by decide +kernel, by decide +kernel, by decide +kernel⟩
abbrev MX12_narrowed : MDt := (yX12_narrowed, cX12_narrowed, 3, (some FieldType.long))
theorem nX12_narrowed : nMH yX12_narrowed 2 := ⟨by decide +kernel, by decide +kernel, by decide +kernel⟩
abbrev MX12_copy : MDt := (yX12_copy, cX12_copy, 7, (some FieldType.int))
theorem nX12_copy : nMH yX12_copy 5 := ⟨by decide +kernel, by decide +kernel, by decide +kernel⟩
abbrev MX12_lays : MDt := (yX12_lays, cX12_lays, 6, (some FieldType.int))
theorem nX12_lays : nMH yX12_lays 1 := ⟨by decide +kernel, by decide +kernel, by decide +kernel⟩
abbrev MX12_book : MDt := (yX12_book, cX12_book, 5, (some FieldType.int))
theorem nX12_book : nMH yX12_book 2 := ⟨by decide +kernel, by decide +kernel, by decide +kernel⟩
abbrev MX12_read : MDt := (yX12_read, cX12_read, 6, (some FieldType.int))
theorem nX12_read : nMH yX12_read 2 := ⟨by decide +kernel, by decide +kernel, by decide +kernel⟩
abbrev MX12_isBook : MDt := (yX12_isBook, cX12_isBook, 4, (some FieldType.boolean))
theorem nX12_isBook : nMH yX12_isBook 2 := ⟨by decide +kernel, by decide +kernel, by decide +kernel⟩
abbrev MX12_image : MDt := (yX12_image, cX12_image, 2, (some FieldType.int))
theorem nX12_image : nMH yX12_image 0 := ⟨by decide +kernel, by decide +kernel, by decide +kernel⟩
abbrev MX12_undo : MDt := (yX12_undo, cX12_undo, 2, (some FieldType.int))
theorem nX12_undo : nMH yX12_undo 0 := ⟨by decide +kernel, by decide +kernel, by decide +kernel⟩
abbrev MX12_tear : MDt := (yX12_tear, cX12_tear, 2, (some FieldType.int))
theorem nX12_tear : nMH yX12_tear 0 := ⟨by decide +kernel, by decide +kernel, by decide +kernel⟩
abbrev MX12_count : MDt := (yX12_count, cX12_count, 2, (some FieldType.int))
theorem nX12_count : nMH yX12_count 1 := ⟨by decide +kernel, by decide +kernel, by decide +kernel⟩
abbrev MX12_holes : MDt := (yX12_holes, cX12_holes, 3, (some FieldType.int))
theorem nX12_holes : nMH yX12_holes 0 := ⟨by decide +kernel, by decide +kernel, by decide +kernel⟩
abbrev MX12_status : MDt := (yX12_status, cX12_status, 4, (some FieldType.int))
theorem nX12_status : nMH yX12_status 1 := ⟨by decide +kernel, by decide +kernel, by decide +kernel⟩
theorem w_1 : Cond.initialized "FeltedWash" ∈ gtbl := gt_in (i := 1) rfl rfl
theorem w_2 : Cond.initialized "FeltedWash$Kind" ∈ gtbl := gt_in (i := 2) rfl rfl
theorem w_3 : Cond.initialized "FeltedWash$Wool" ∈ gtbl := gt_in (i := 3) rfl rfl
theorem w_4 : Cond.initialized "FeltedWash$Cotton" ∈ gtbl := gt_in (i := 4) rfl rfl
theorem w_5 : Cond.initialized "FeltedWash$Silk" ∈ gtbl := gt_in (i := 5) rfl rfl
theorem w_6 : Cond.initialized "FeltedWash$Jumper" ∈ gtbl := gt_in (i := 6) rfl rfl
theorem w_7 : Cond.initialized "FeltedWash$Sock" ∈ gtbl := gt_in (i := 7) rfl rfl
theorem w_8 : Cond.initialized "FeltedWash$Basket" ∈ gtbl := gt_in (i := 8) rfl rfl
theorem w_9 : Cond.initialized "FeltedWash$Garment" ∈ gtbl := gt_in (i := 9) rfl rfl
theorem w_10 : Cond.initialized "FeltedWash$Person" ∈ gtbl := gt_in (i := 10) rfl rfl
theorem w_11 : Cond.initialized "FeltedWash$Tape" ∈ gtbl := gt_in (i := 11) rfl rfl
theorem w_12 : Cond.initialized "FeltedWash$Sheet" ∈ gtbl := gt_in (i := 12) rfl rfl
theorem w_13 : Cond.initialized "FeltedWashModel" ∈ gtbl := gt_in (i := 13) rfl rfl
theorem w_14 : Cond.initialized "java/lang/Math" ∈ gtbl := gt_in (i := 14) rfl rfl
theorem w_15 : Cond.initialized "java/lang/Integer" ∈ gtbl := gt_in (i := 15) rfl rfl
theorem w_16 : Cond.initialized "java/lang/String" ∈ gtbl := gt_in (i := 16) rfl rfl
theorem w_17 : Cond.initialized "java/lang/StringLatin1" ∈ gtbl := gt_in (i := 17) rfl rfl
theorem w_18 : Cond.initialized "jdk/internal/util/Preconditions" ∈ gtbl := gt_in (i := 18) rfl rfl
theorem w_19 : Cond.initialized "java/lang/StringUTF16" ∈ gtbl := gt_in (i := 19) rfl rfl
theorem w_20 : Cond.initialized "java/lang/System" ∈ gtbl := gt_in (i := 20) rfl rfl
theorem w_21 : Cond.classLink "FeltedWashLaw" (7 : Nat) "FeltedWash" ∈ gtbl := gt_in (i := 21) rfl rfl
theorem w_22 : Cond.instantiable "FeltedWash" (8 : Nat) ∈ gtbl := gt_in (i := 22) rfl rfl
theorem w_23 : Cond.methodLink "FeltedWashLaw" (9 : Nat) yX11_init ∈ gtbl := gt_in (i := 23) rfl rfl
theorem w_24 : Cond.instanceMethod yX11_init ∈ gtbl := gt_in (i := 24) rfl rfl
theorem w_25 : Cond.code yX11_init prog_1_method_1_code (3 : Nat) (Option.none : Option FieldType) ∈ gtbl := gt_in (i := 25) rfl rfl
theorem w_26 : Cond.methodLink "FeltedWash" (1 : Nat) ⟨"java/lang/Object", "<init>", "()V"⟩ ∈ gtbl := gt_in (i := 26) rfl rfl
theorem w_27 : Cond.instanceMethod ⟨"java/lang/Object", "<init>", "()V"⟩ ∈ gtbl := gt_in (i := 27) rfl rfl
theorem w_28 : Cond.code ⟨"java/lang/Object", "<init>", "()V"⟩ object_method_1_code (1 : Nat) (Option.none : Option FieldType) ∈ gtbl := gt_in (i := 28) rfl rfl
theorem w_29 : Cond.methodLink "FeltedWash" (7 : Nat) yX4_inOrder ∈ gtbl := gt_in (i := 29) rfl rfl
theorem w_30 : Cond.static yX4_inOrder ∈ gtbl := gt_in (i := 30) rfl rfl
theorem w_31 : Cond.code yX4_inOrder prog_6_method_2_code (5 : Nat) (Option.some (FieldType.array (FieldType.object "FeltedWash$Kind"))) ∈ gtbl := gt_in (i := 31) rfl rfl
theorem w_32 : Cond.classLink "FeltedWash$Kind" (10 : Nat) "FeltedWash$Kind" ∈ gtbl := gt_in (i := 32) rfl rfl
theorem w_33 : Cond.instantiable "FeltedWash$Kind" (2 : Nat) ∈ gtbl := gt_in (i := 33) rfl rfl
theorem w_34 : Cond.methodLink "FeltedWash$Kind" (19 : Nat) yX4_init ∈ gtbl := gt_in (i := 34) rfl rfl
theorem w_35 : Cond.instanceMethod yX4_init ∈ gtbl := gt_in (i := 35) rfl rfl
theorem w_36 : Cond.code yX4_init prog_6_method_1_code (3 : Nat) (Option.none : Option FieldType) ∈ gtbl := gt_in (i := 36) rfl rfl
theorem w_37 : Cond.methodLink "FeltedWash$Kind" (3 : Nat) ⟨"java/lang/Object", "<init>", "()V"⟩ ∈ gtbl := gt_in (i := 37) rfl rfl
theorem w_38 : Cond.fieldLink "FeltedWash$Kind" (9 : Nat) "FeltedWash$Kind" "number" "I" ∈ gtbl := gt_in (i := 38) rfl rfl
theorem w_39 : Cond.fieldLink "FeltedWash" (113 : Nat) "FeltedWash$Kind" "number" "I" ∈ gtbl := gt_in (i := 39) rfl rfl
theorem w_40 : Cond.fieldLink "FeltedWash$Kind" (15 : Nat) "FeltedWash$Kind" "above" "LFeltedWash$Kind;" ∈ gtbl := gt_in (i := 40) rfl rfl
theorem w_41 : Cond.laysFinal "FeltedWash$Kind" "FeltedWash$Kind" "number" "I" ∈ gtbl := gt_in (i := 41) rfl rfl
theorem w_43 : Cond.laysFinal "FeltedWash$Kind" "FeltedWash$Kind" "above" "LFeltedWash$Kind;" ∈ gtbl := gt_in (i := 43) rfl rfl
theorem w_46 : Cond.classLink "FeltedWash$Kind" (22 : Nat) "FeltedWash$Wool" ∈ gtbl := gt_in (i := 46) rfl rfl
theorem w_47 : Cond.instantiable "FeltedWash$Wool" (2 : Nat) ∈ gtbl := gt_in (i := 47) rfl rfl
theorem w_48 : Cond.methodLink "FeltedWash$Kind" (24 : Nat) yX10_init ∈ gtbl := gt_in (i := 48) rfl rfl
theorem w_49 : Cond.instanceMethod yX10_init ∈ gtbl := gt_in (i := 49) rfl rfl
theorem w_50 : Cond.code yX10_init prog_12_method_1_code (3 : Nat) (Option.none : Option FieldType) ∈ gtbl := gt_in (i := 50) rfl rfl
theorem w_51 : Cond.methodLink "FeltedWash$Wool" (1 : Nat) yX4_init ∈ gtbl := gt_in (i := 51) rfl rfl
theorem w_52 : Cond.laysFinal "FeltedWash$Wool" "FeltedWash$Kind" "number" "I" ∈ gtbl := gt_in (i := 52) rfl rfl
theorem w_53 : Cond.laysFinal "FeltedWash$Wool" "FeltedWash$Kind" "above" "LFeltedWash$Kind;" ∈ gtbl := gt_in (i := 53) rfl rfl
theorem w_54 : Cond.superclass "FeltedWash$Wool" "FeltedWash$Kind" ∈ gtbl := gt_in (i := 54) rfl rfl
theorem w_55 : Cond.classLink "FeltedWash$Kind" (25 : Nat) "FeltedWash$Cotton" ∈ gtbl := gt_in (i := 55) rfl rfl
theorem w_56 : Cond.instantiable "FeltedWash$Cotton" (2 : Nat) ∈ gtbl := gt_in (i := 56) rfl rfl
theorem w_57 : Cond.methodLink "FeltedWash$Kind" (27 : Nat) yX1_init ∈ gtbl := gt_in (i := 57) rfl rfl
theorem w_58 : Cond.instanceMethod yX1_init ∈ gtbl := gt_in (i := 58) rfl rfl
theorem w_59 : Cond.code yX1_init prog_3_method_1_code (3 : Nat) (Option.none : Option FieldType) ∈ gtbl := gt_in (i := 59) rfl rfl
theorem w_60 : Cond.methodLink "FeltedWash$Cotton" (1 : Nat) yX4_init ∈ gtbl := gt_in (i := 60) rfl rfl
theorem w_61 : Cond.laysFinal "FeltedWash$Cotton" "FeltedWash$Kind" "number" "I" ∈ gtbl := gt_in (i := 61) rfl rfl
theorem w_62 : Cond.laysFinal "FeltedWash$Cotton" "FeltedWash$Kind" "above" "LFeltedWash$Kind;" ∈ gtbl := gt_in (i := 62) rfl rfl
theorem w_63 : Cond.superclass "FeltedWash$Cotton" "FeltedWash$Kind" ∈ gtbl := gt_in (i := 63) rfl rfl
theorem w_64 : Cond.classLink "FeltedWash$Kind" (28 : Nat) "FeltedWash$Silk" ∈ gtbl := gt_in (i := 64) rfl rfl
theorem w_65 : Cond.instantiable "FeltedWash$Silk" (2 : Nat) ∈ gtbl := gt_in (i := 65) rfl rfl
theorem w_66 : Cond.methodLink "FeltedWash$Kind" (30 : Nat) yX7_init ∈ gtbl := gt_in (i := 66) rfl rfl
theorem w_67 : Cond.instanceMethod yX7_init ∈ gtbl := gt_in (i := 67) rfl rfl
theorem w_68 : Cond.code yX7_init prog_9_method_1_code (3 : Nat) (Option.none : Option FieldType) ∈ gtbl := gt_in (i := 68) rfl rfl
theorem w_69 : Cond.methodLink "FeltedWash$Silk" (1 : Nat) yX4_init ∈ gtbl := gt_in (i := 69) rfl rfl
theorem w_70 : Cond.laysFinal "FeltedWash$Silk" "FeltedWash$Kind" "number" "I" ∈ gtbl := gt_in (i := 70) rfl rfl
theorem w_71 : Cond.laysFinal "FeltedWash$Silk" "FeltedWash$Kind" "above" "LFeltedWash$Kind;" ∈ gtbl := gt_in (i := 71) rfl rfl
theorem w_72 : Cond.superclass "FeltedWash$Silk" "FeltedWash$Kind" ∈ gtbl := gt_in (i := 72) rfl rfl
theorem w_74 : Cond.classLink "FeltedWash$Kind" (31 : Nat) "FeltedWash$Jumper" ∈ gtbl := gt_in (i := 74) rfl rfl
theorem w_75 : Cond.instantiable "FeltedWash$Jumper" (2 : Nat) ∈ gtbl := gt_in (i := 75) rfl rfl
theorem w_76 : Cond.methodLink "FeltedWash$Kind" (33 : Nat) yX3_init ∈ gtbl := gt_in (i := 76) rfl rfl
theorem w_77 : Cond.instanceMethod yX3_init ∈ gtbl := gt_in (i := 77) rfl rfl
theorem w_78 : Cond.code yX3_init prog_5_method_1_code (3 : Nat) (Option.none : Option FieldType) ∈ gtbl := gt_in (i := 78) rfl rfl
theorem w_79 : Cond.methodLink "FeltedWash$Jumper" (1 : Nat) yX10_init ∈ gtbl := gt_in (i := 79) rfl rfl
theorem w_80 : Cond.laysFinal "FeltedWash$Jumper" "FeltedWash$Kind" "number" "I" ∈ gtbl := gt_in (i := 80) rfl rfl
theorem w_81 : Cond.laysFinal "FeltedWash$Jumper" "FeltedWash$Kind" "above" "LFeltedWash$Kind;" ∈ gtbl := gt_in (i := 81) rfl rfl
theorem w_82 : Cond.superclass "FeltedWash$Jumper" "FeltedWash$Wool" ∈ gtbl := gt_in (i := 82) rfl rfl
theorem w_83 : Cond.classLink "FeltedWash$Kind" (34 : Nat) "FeltedWash$Sock" ∈ gtbl := gt_in (i := 83) rfl rfl
theorem w_84 : Cond.instantiable "FeltedWash$Sock" (2 : Nat) ∈ gtbl := gt_in (i := 84) rfl rfl
theorem w_85 : Cond.methodLink "FeltedWash$Kind" (36 : Nat) yX8_init ∈ gtbl := gt_in (i := 85) rfl rfl
theorem w_86 : Cond.instanceMethod yX8_init ∈ gtbl := gt_in (i := 86) rfl rfl
theorem w_87 : Cond.code yX8_init prog_10_method_1_code (3 : Nat) (Option.none : Option FieldType) ∈ gtbl := gt_in (i := 87) rfl rfl
theorem w_88 : Cond.methodLink "FeltedWash$Sock" (1 : Nat) yX1_init ∈ gtbl := gt_in (i := 88) rfl rfl
theorem w_89 : Cond.laysFinal "FeltedWash$Sock" "FeltedWash$Kind" "number" "I" ∈ gtbl := gt_in (i := 89) rfl rfl
theorem w_90 : Cond.laysFinal "FeltedWash$Sock" "FeltedWash$Kind" "above" "LFeltedWash$Kind;" ∈ gtbl := gt_in (i := 90) rfl rfl
theorem w_91 : Cond.superclass "FeltedWash$Sock" "FeltedWash$Cotton" ∈ gtbl := gt_in (i := 91) rfl rfl
theorem w_92 : Cond.classLink "FeltedWash" (13 : Nat) "FeltedWash$Basket" ∈ gtbl := gt_in (i := 92) rfl rfl
theorem w_93 : Cond.instantiable "FeltedWash$Basket" (8 : Nat) ∈ gtbl := gt_in (i := 93) rfl rfl
theorem w_94 : Cond.methodLink "FeltedWash" (15 : Nat) yX0_init ∈ gtbl := gt_in (i := 94) rfl rfl
theorem w_95 : Cond.instanceMethod yX0_init ∈ gtbl := gt_in (i := 95) rfl rfl
theorem w_96 : Cond.code yX0_init prog_2_method_1_code (3 : Nat) (Option.none : Option FieldType) ∈ gtbl := gt_in (i := 96) rfl rfl
theorem w_97 : Cond.methodLink "FeltedWash$Basket" (3 : Nat) ⟨"java/lang/Object", "<init>", "()V"⟩ ∈ gtbl := gt_in (i := 97) rfl rfl
theorem w_98 : Cond.classLink "FeltedWash$Basket" (15 : Nat) "FeltedWash$Garment" ∈ gtbl := gt_in (i := 98) rfl rfl
theorem w_100 : Cond.instantiable "FeltedWash$Garment" (7 : Nat) ∈ gtbl := gt_in (i := 100) rfl rfl
theorem w_101 : Cond.methodLink "FeltedWash$Basket" (21 : Nat) yX2_init ∈ gtbl := gt_in (i := 101) rfl rfl
theorem w_102 : Cond.instanceMethod yX2_init ∈ gtbl := gt_in (i := 102) rfl rfl
theorem w_103 : Cond.code yX2_init prog_4_method_1_code (2 : Nat) (Option.none : Option FieldType) ∈ gtbl := gt_in (i := 103) rfl rfl
theorem w_104 : Cond.methodLink "FeltedWash$Garment" (3 : Nat) ⟨"java/lang/Object", "<init>", "()V"⟩ ∈ gtbl := gt_in (i := 104) rfl rfl
theorem w_105 : Cond.fieldLink "FeltedWash$Garment" (9 : Nat) "FeltedWash$Garment" "sort" "LFeltedWash$Kind;" ∈ gtbl := gt_in (i := 105) rfl rfl
theorem w_106 : Cond.fieldLink "FeltedWash" (105 : Nat) "FeltedWash$Garment" "sort" "LFeltedWash$Kind;" ∈ gtbl := gt_in (i := 106) rfl rfl
theorem w_107 : Cond.fieldLink "FeltedWash$Garment" (15 : Nat) "FeltedWash$Garment" "length" "I" ∈ gtbl := gt_in (i := 107) rfl rfl
theorem w_108 : Cond.fieldLink "FeltedWash" (116 : Nat) "FeltedWash$Garment" "length" "I" ∈ gtbl := gt_in (i := 108) rfl rfl
theorem w_109 : Cond.fieldLink "FeltedWash$Tape" (98 : Nat) "FeltedWash$Garment" "length" "I" ∈ gtbl := gt_in (i := 109) rfl rfl
theorem w_110 : Cond.fieldLink "FeltedWash$Garment" (19 : Nat) "FeltedWash$Garment" "breadth" "I" ∈ gtbl := gt_in (i := 110) rfl rfl
theorem w_111 : Cond.fieldLink "FeltedWash" (119 : Nat) "FeltedWash$Garment" "breadth" "I" ∈ gtbl := gt_in (i := 111) rfl rfl
theorem w_112 : Cond.fieldLink "FeltedWash$Tape" (106 : Nat) "FeltedWash$Garment" "breadth" "I" ∈ gtbl := gt_in (i := 112) rfl rfl
theorem w_113 : Cond.fieldLink "FeltedWash$Garment" (22 : Nat) "FeltedWash$Garment" "thick" "I" ∈ gtbl := gt_in (i := 113) rfl rfl
theorem w_114 : Cond.fieldLink "FeltedWash" (122 : Nat) "FeltedWash$Garment" "thick" "I" ∈ gtbl := gt_in (i := 114) rfl rfl
theorem w_115 : Cond.fieldLink "FeltedWash$Tape" (118 : Nat) "FeltedWash$Garment" "thick" "I" ∈ gtbl := gt_in (i := 115) rfl rfl
theorem w_116 : Cond.fieldLink "FeltedWash$Garment" (25 : Nat) "FeltedWash$Garment" "wet" "I" ∈ gtbl := gt_in (i := 116) rfl rfl
theorem w_117 : Cond.fieldLink "FeltedWash" (125 : Nat) "FeltedWash$Garment" "wet" "I" ∈ gtbl := gt_in (i := 117) rfl rfl
theorem w_118 : Cond.fieldLink "FeltedWash$Basket" (68 : Nat) "FeltedWash$Garment" "wet" "I" ∈ gtbl := gt_in (i := 118) rfl rfl
theorem w_119 : Cond.fieldLink "FeltedWash$Garment" (28 : Nat) "FeltedWash$Garment" "drawn" "I" ∈ gtbl := gt_in (i := 119) rfl rfl
theorem w_120 : Cond.fieldLink "FeltedWash" (128 : Nat) "FeltedWash$Garment" "drawn" "I" ∈ gtbl := gt_in (i := 120) rfl rfl
theorem w_121 : Cond.fieldLink "FeltedWash$Garment" (31 : Nat) "FeltedWash$Garment" "holes" "I" ∈ gtbl := gt_in (i := 121) rfl rfl
theorem w_122 : Cond.fieldLink "FeltedWash" (131 : Nat) "FeltedWash$Garment" "holes" "I" ∈ gtbl := gt_in (i := 122) rfl rfl
theorem w_123 : Cond.fieldLink "FeltedWash$Basket" (71 : Nat) "FeltedWash$Garment" "holes" "I" ∈ gtbl := gt_in (i := 123) rfl rfl
theorem w_124 : Cond.lays "FeltedWash$Garment" "FeltedWash$Garment" "sort" "LFeltedWash$Kind;" ∈ gtbl := gt_in (i := 124) rfl rfl
theorem w_126 : Cond.lays "FeltedWash$Garment" "FeltedWash$Garment" "length" "I" ∈ gtbl := gt_in (i := 126) rfl rfl
theorem w_128 : Cond.lays "FeltedWash$Garment" "FeltedWash$Garment" "breadth" "I" ∈ gtbl := gt_in (i := 128) rfl rfl
theorem w_130 : Cond.lays "FeltedWash$Garment" "FeltedWash$Garment" "thick" "I" ∈ gtbl := gt_in (i := 130) rfl rfl
theorem w_132 : Cond.lays "FeltedWash$Garment" "FeltedWash$Garment" "wet" "I" ∈ gtbl := gt_in (i := 132) rfl rfl
theorem w_134 : Cond.lays "FeltedWash$Garment" "FeltedWash$Garment" "drawn" "I" ∈ gtbl := gt_in (i := 134) rfl rfl
theorem w_136 : Cond.lays "FeltedWash$Garment" "FeltedWash$Garment" "holes" "I" ∈ gtbl := gt_in (i := 136) rfl rfl
theorem w_139 : Cond.classLink "FeltedWash$Basket" (24 : Nat) "FeltedWash$Person" ∈ gtbl := gt_in (i := 139) rfl rfl
theorem w_141 : Cond.instantiable "FeltedWash$Person" (2 : Nat) ∈ gtbl := gt_in (i := 141) rfl rfl
theorem w_143 : Cond.instanceMethod yX5_init ∈ gtbl := gt_in (i := 143) rfl rfl
theorem w_144 : Cond.code yX5_init prog_7_method_1_code (1 : Nat) (Option.none : Option FieldType) ∈ gtbl := gt_in (i := 144) rfl rfl
theorem w_145 : Cond.methodLink "FeltedWash$Person" (1 : Nat) ⟨"java/lang/Object", "<init>", "()V"⟩ ∈ gtbl := gt_in (i := 145) rfl rfl
theorem w_146 : Cond.fieldLink "FeltedWash$Basket" (51 : Nat) "FeltedWash$Person" "length" "I" ∈ gtbl := gt_in (i := 146) rfl rfl
theorem w_147 : Cond.fieldLink "FeltedWash$Garment" (66 : Nat) "FeltedWash$Person" "length" "I" ∈ gtbl := gt_in (i := 147) rfl rfl
theorem w_148 : Cond.fieldLink "FeltedWash" (178 : Nat) "FeltedWash$Person" "length" "I" ∈ gtbl := gt_in (i := 148) rfl rfl
theorem w_149 : Cond.fieldLink "FeltedWash$Basket" (54 : Nat) "FeltedWash$Person" "breadth" "I" ∈ gtbl := gt_in (i := 149) rfl rfl
theorem w_150 : Cond.fieldLink "FeltedWash$Garment" (73 : Nat) "FeltedWash$Person" "breadth" "I" ∈ gtbl := gt_in (i := 150) rfl rfl
theorem w_151 : Cond.fieldLink "FeltedWash" (181 : Nat) "FeltedWash$Person" "breadth" "I" ∈ gtbl := gt_in (i := 151) rfl rfl
theorem w_152 : Cond.lays "FeltedWash$Person" "FeltedWash$Person" "length" "I" ∈ gtbl := gt_in (i := 152) rfl rfl
theorem w_154 : Cond.lays "FeltedWash$Person" "FeltedWash$Person" "breadth" "I" ∈ gtbl := gt_in (i := 154) rfl rfl
theorem w_157 : Cond.fieldLink "FeltedWash$Basket" (9 : Nat) "FeltedWash$Basket" "kinds" "[LFeltedWash$Kind;" ∈ gtbl := gt_in (i := 157) rfl rfl
theorem w_158 : Cond.fieldLink "FeltedWash$Basket" (17 : Nat) "FeltedWash$Basket" "garments" "[LFeltedWash$Garment;" ∈ gtbl := gt_in (i := 158) rfl rfl
theorem w_159 : Cond.fieldLink "FeltedWash$Basket" (26 : Nat) "FeltedWash$Basket" "people" "[LFeltedWash$Person;" ∈ gtbl := gt_in (i := 159) rfl rfl
theorem w_160 : Cond.fieldLink "FeltedWash$Basket" (35 : Nat) "FeltedWash$Basket" "garmentCount" "I" ∈ gtbl := gt_in (i := 160) rfl rfl
theorem w_161 : Cond.fieldLink "FeltedWash" (99 : Nat) "FeltedWash$Basket" "garmentCount" "I" ∈ gtbl := gt_in (i := 161) rfl rfl
theorem w_162 : Cond.fieldLink "FeltedWash$Basket" (38 : Nat) "FeltedWash$Basket" "personCount" "I" ∈ gtbl := gt_in (i := 162) rfl rfl
theorem w_163 : Cond.fieldLink "FeltedWash$Tape" (120 : Nat) "FeltedWash$Basket" "personCount" "I" ∈ gtbl := gt_in (i := 163) rfl rfl
theorem w_164 : Cond.fieldLink "FeltedWash" (171 : Nat) "FeltedWash$Basket" "personCount" "I" ∈ gtbl := gt_in (i := 164) rfl rfl
theorem w_165 : Cond.fieldLink "FeltedWash$Basket" (41 : Nat) "FeltedWash$Basket" "day" "I" ∈ gtbl := gt_in (i := 165) rfl rfl
theorem w_166 : Cond.fieldLink "FeltedWash" (77 : Nat) "FeltedWash$Basket" "day" "I" ∈ gtbl := gt_in (i := 166) rfl rfl
theorem w_167 : Cond.fieldLink "FeltedWash$Basket" (31 : Nat) "FeltedWash$Basket" "degrees" "I" ∈ gtbl := gt_in (i := 167) rfl rfl
theorem w_168 : Cond.fieldLink "FeltedWash" (65 : Nat) "FeltedWash$Basket" "degrees" "I" ∈ gtbl := gt_in (i := 168) rfl rfl
theorem w_169 : Cond.fieldLink "FeltedWash$Tape" (127 : Nat) "FeltedWash$Basket" "degrees" "I" ∈ gtbl := gt_in (i := 169) rfl rfl
theorem w_170 : Cond.fieldLink "FeltedWash$Basket" (44 : Nat) "FeltedWash$Basket" "towels" "I" ∈ gtbl := gt_in (i := 170) rfl rfl
theorem w_171 : Cond.fieldLink "FeltedWash" (69 : Nat) "FeltedWash$Basket" "towels" "I" ∈ gtbl := gt_in (i := 171) rfl rfl
theorem w_172 : Cond.fieldLink "FeltedWash$Tape" (73 : Nat) "FeltedWash$Basket" "towels" "I" ∈ gtbl := gt_in (i := 172) rfl rfl
theorem w_173 : Cond.laysFinal "FeltedWash$Basket" "FeltedWash$Basket" "kinds" "[LFeltedWash$Kind;" ∈ gtbl := gt_in (i := 173) rfl rfl
theorem w_175 : Cond.laysFinal "FeltedWash$Basket" "FeltedWash$Basket" "garments" "[LFeltedWash$Garment;" ∈ gtbl := gt_in (i := 175) rfl rfl
theorem w_177 : Cond.laysFinal "FeltedWash$Basket" "FeltedWash$Basket" "people" "[LFeltedWash$Person;" ∈ gtbl := gt_in (i := 177) rfl rfl
theorem w_179 : Cond.lays "FeltedWash$Basket" "FeltedWash$Basket" "garmentCount" "I" ∈ gtbl := gt_in (i := 179) rfl rfl
theorem w_181 : Cond.lays "FeltedWash$Basket" "FeltedWash$Basket" "personCount" "I" ∈ gtbl := gt_in (i := 181) rfl rfl
theorem w_183 : Cond.lays "FeltedWash$Basket" "FeltedWash$Basket" "day" "I" ∈ gtbl := gt_in (i := 183) rfl rfl
theorem w_185 : Cond.lays "FeltedWash$Basket" "FeltedWash$Basket" "degrees" "I" ∈ gtbl := gt_in (i := 185) rfl rfl
theorem w_187 : Cond.lays "FeltedWash$Basket" "FeltedWash$Basket" "towels" "I" ∈ gtbl := gt_in (i := 187) rfl rfl
theorem w_190 : Cond.classLink "FeltedWash" (30 : Nat) "FeltedWash$Garment" ∈ gtbl := gt_in (i := 190) rfl rfl
theorem w_191 : Cond.methodLink "FeltedWash" (32 : Nat) yX2_init ∈ gtbl := gt_in (i := 191) rfl rfl
theorem w_192 : Cond.classLink "FeltedWash" (39 : Nat) "FeltedWash$Tape" ∈ gtbl := gt_in (i := 192) rfl rfl
theorem w_193 : Cond.instantiable "FeltedWash$Tape" (8 : Nat) ∈ gtbl := gt_in (i := 193) rfl rfl
theorem w_195 : Cond.instanceMethod yX9_init ∈ gtbl := gt_in (i := 195) rfl rfl
theorem w_196 : Cond.code yX9_init prog_11_method_1_code (1 : Nat) (Option.none : Option FieldType) ∈ gtbl := gt_in (i := 196) rfl rfl
theorem w_197 : Cond.methodLink "FeltedWash$Tape" (3 : Nat) ⟨"java/lang/Object", "<init>", "()V"⟩ ∈ gtbl := gt_in (i := 197) rfl rfl
theorem w_198 : Cond.fieldLink "FeltedWash$Tape" (9 : Nat) "FeltedWash$Tape" "bytes" "[B" ∈ gtbl := gt_in (i := 198) rfl rfl
theorem w_199 : Cond.fieldLink "FeltedWash$Tape" (15 : Nat) "FeltedWash$Tape" "count" "I" ∈ gtbl := gt_in (i := 199) rfl rfl
theorem w_200 : Cond.fieldLink "FeltedWash" (220 : Nat) "FeltedWash$Tape" "count" "I" ∈ gtbl := gt_in (i := 200) rfl rfl
theorem w_201 : Cond.fieldLink "FeltedWash$Tape" (29 : Nat) "FeltedWash$Tape" "type" "I" ∈ gtbl := gt_in (i := 201) rfl rfl
theorem w_202 : Cond.fieldLink "FeltedWash$Tape" (32 : Nat) "FeltedWash$Tape" "start" "I" ∈ gtbl := gt_in (i := 202) rfl rfl
theorem w_203 : Cond.fieldLink "FeltedWash$Tape" (19 : Nat) "FeltedWash$Tape" "end" "I" ∈ gtbl := gt_in (i := 203) rfl rfl
theorem w_204 : Cond.fieldLink "FeltedWash$Tape" (115 : Nat) "FeltedWash$Tape" "value" "I" ∈ gtbl := gt_in (i := 204) rfl rfl
theorem w_205 : Cond.fieldLink "FeltedWash$Tape" (95 : Nat) "FeltedWash$Tape" "firstSpan" "I" ∈ gtbl := gt_in (i := 205) rfl rfl
theorem w_206 : Cond.fieldLink "FeltedWash$Tape" (103 : Nat) "FeltedWash$Tape" "secondSpan" "I" ∈ gtbl := gt_in (i := 206) rfl rfl
theorem w_207 : Cond.laysFinal "FeltedWash$Tape" "FeltedWash$Tape" "bytes" "[B" ∈ gtbl := gt_in (i := 207) rfl rfl
theorem w_209 : Cond.lays "FeltedWash$Tape" "FeltedWash$Tape" "count" "I" ∈ gtbl := gt_in (i := 209) rfl rfl
theorem w_211 : Cond.lays "FeltedWash$Tape" "FeltedWash$Tape" "type" "I" ∈ gtbl := gt_in (i := 211) rfl rfl
theorem w_213 : Cond.lays "FeltedWash$Tape" "FeltedWash$Tape" "start" "I" ∈ gtbl := gt_in (i := 213) rfl rfl
theorem w_215 : Cond.lays "FeltedWash$Tape" "FeltedWash$Tape" "end" "I" ∈ gtbl := gt_in (i := 215) rfl rfl
theorem w_217 : Cond.lays "FeltedWash$Tape" "FeltedWash$Tape" "value" "I" ∈ gtbl := gt_in (i := 217) rfl rfl
theorem w_219 : Cond.lays "FeltedWash$Tape" "FeltedWash$Tape" "firstSpan" "I" ∈ gtbl := gt_in (i := 219) rfl rfl
theorem w_221 : Cond.lays "FeltedWash$Tape" "FeltedWash$Tape" "secondSpan" "I" ∈ gtbl := gt_in (i := 221) rfl rfl
theorem w_224 : Cond.arrayClass FieldType.byte ∈ gtbl := gt_in (i := 224) rfl rfl
theorem w_225 : Cond.classLink "FeltedWash" (46 : Nat) "FeltedWash$Sheet" ∈ gtbl := gt_in (i := 225) rfl rfl
theorem w_227 : Cond.instantiable "FeltedWash$Sheet" (3 : Nat) ∈ gtbl := gt_in (i := 227) rfl rfl
theorem w_229 : Cond.instanceMethod yX6_init ∈ gtbl := gt_in (i := 229) rfl rfl
theorem w_230 : Cond.code yX6_init prog_8_method_1_code (1 : Nat) (Option.none : Option FieldType) ∈ gtbl := gt_in (i := 230) rfl rfl
theorem w_231 : Cond.methodLink "FeltedWash$Sheet" (3 : Nat) ⟨"java/lang/Object", "<init>", "()V"⟩ ∈ gtbl := gt_in (i := 231) rfl rfl
theorem w_232 : Cond.fieldLink "FeltedWash$Sheet" (9 : Nat) "FeltedWash$Sheet" "numbers" "[J" ∈ gtbl := gt_in (i := 232) rfl rfl
theorem w_233 : Cond.fieldLink "FeltedWash" (248 : Nat) "FeltedWash$Sheet" "numbers" "[J" ∈ gtbl := gt_in (i := 233) rfl rfl
theorem w_234 : Cond.fieldLink "FeltedWash$Sheet" (15 : Nat) "FeltedWash$Sheet" "bits" "I" ∈ gtbl := gt_in (i := 234) rfl rfl
theorem w_235 : Cond.fieldLink "FeltedWash" (256 : Nat) "FeltedWash$Sheet" "bits" "I" ∈ gtbl := gt_in (i := 235) rfl rfl
theorem w_236 : Cond.fieldLink "FeltedWash$Sheet" (19 : Nat) "FeltedWash$Sheet" "count" "I" ∈ gtbl := gt_in (i := 236) rfl rfl
theorem w_237 : Cond.fieldLink "FeltedWash" (242 : Nat) "FeltedWash$Sheet" "count" "I" ∈ gtbl := gt_in (i := 237) rfl rfl
theorem w_238 : Cond.laysFinal "FeltedWash$Sheet" "FeltedWash$Sheet" "numbers" "[J" ∈ gtbl := gt_in (i := 238) rfl rfl
theorem w_240 : Cond.lays "FeltedWash$Sheet" "FeltedWash$Sheet" "bits" "I" ∈ gtbl := gt_in (i := 240) rfl rfl
theorem w_242 : Cond.lays "FeltedWash$Sheet" "FeltedWash$Sheet" "count" "I" ∈ gtbl := gt_in (i := 242) rfl rfl
theorem w_245 : Cond.arrayClass FieldType.long ∈ gtbl := gt_in (i := 245) rfl rfl
theorem w_246 : Cond.fieldLink "FeltedWash" (18 : Nat) "FeltedWash" "current" "LFeltedWash$Basket;" ∈ gtbl := gt_in (i := 246) rfl rfl
theorem w_247 : Cond.fieldLink "FeltedWash" (24 : Nat) "FeltedWash" "kept" "LFeltedWash$Basket;" ∈ gtbl := gt_in (i := 247) rfl rfl
theorem w_248 : Cond.fieldLink "FeltedWash" (27 : Nat) "FeltedWash" "draft" "LFeltedWash$Basket;" ∈ gtbl := gt_in (i := 248) rfl rfl
theorem w_249 : Cond.fieldLink "FeltedWash" (35 : Nat) "FeltedWash" "trial" "LFeltedWash$Garment;" ∈ gtbl := gt_in (i := 249) rfl rfl
theorem w_250 : Cond.fieldLink "FeltedWash" (42 : Nat) "FeltedWash" "tape" "LFeltedWash$Tape;" ∈ gtbl := gt_in (i := 250) rfl rfl
theorem w_251 : Cond.fieldLink "FeltedWash" (48 : Nat) "FeltedWash" "sheets" "[LFeltedWash$Sheet;" ∈ gtbl := gt_in (i := 251) rfl rfl
theorem w_252 : Cond.fieldLink "FeltedWash" (53 : Nat) "FeltedWash" "found" "[I" ∈ gtbl := gt_in (i := 252) rfl rfl
theorem w_253 : Cond.fieldLink "FeltedWash" (57 : Nat) "FeltedWash" "somethingKept" "Z" ∈ gtbl := gt_in (i := 253) rfl rfl
theorem w_254 : Cond.laysFinal "FeltedWash" "FeltedWash" "current" "LFeltedWash$Basket;" ∈ gtbl := gt_in (i := 254) rfl rfl
theorem w_256 : Cond.laysFinal "FeltedWash" "FeltedWash" "kept" "LFeltedWash$Basket;" ∈ gtbl := gt_in (i := 256) rfl rfl
theorem w_258 : Cond.laysFinal "FeltedWash" "FeltedWash" "draft" "LFeltedWash$Basket;" ∈ gtbl := gt_in (i := 258) rfl rfl
theorem w_260 : Cond.laysFinal "FeltedWash" "FeltedWash" "trial" "LFeltedWash$Garment;" ∈ gtbl := gt_in (i := 260) rfl rfl
theorem w_262 : Cond.laysFinal "FeltedWash" "FeltedWash" "tape" "LFeltedWash$Tape;" ∈ gtbl := gt_in (i := 262) rfl rfl
theorem w_264 : Cond.laysFinal "FeltedWash" "FeltedWash" "sheets" "[LFeltedWash$Sheet;" ∈ gtbl := gt_in (i := 264) rfl rfl
theorem w_266 : Cond.laysFinal "FeltedWash" "FeltedWash" "found" "[I" ∈ gtbl := gt_in (i := 266) rfl rfl
theorem w_268 : Cond.lays "FeltedWash" "FeltedWash" "somethingKept" "Z" ∈ gtbl := gt_in (i := 268) rfl rfl
theorem w_271 : Cond.arrayClass FieldType.int ∈ gtbl := gt_in (i := 271) rfl rfl
theorem w_272 : Cond.methodLink "FeltedWashLaw" (13 : Nat) yX11_machine ∈ gtbl := gt_in (i := 272) rfl rfl
theorem w_273 : Cond.instanceMethod yX11_machine ∈ gtbl := gt_in (i := 273) rfl rfl
theorem w_274 : Cond.selects "FeltedWash" yX11_machine yX11_machine ∈ gtbl := gt_in (i := 274) rfl rfl
theorem w_275 : Cond.code yX11_machine prog_1_method_2_code (4 : Nat) (Option.some FieldType.int) ∈ gtbl := gt_in (i := 275) rfl rfl
theorem w_276 : Cond.methodLink "FeltedWash" (61 : Nat) yX11_within ∈ gtbl := gt_in (i := 276) rfl rfl
theorem w_277 : Cond.static yX11_within ∈ gtbl := gt_in (i := 277) rfl rfl
theorem w_278 : Cond.code yX11_within prog_1_method_43_code (3 : Nat) (Option.some FieldType.boolean) ∈ gtbl := gt_in (i := 278) rfl rfl
theorem w_279 : Cond.constant "FeltedWash" (72 : Nat) (-1000000001 : Int32) ∈ gtbl := gt_in (i := 279) rfl rfl
theorem w_280 : Cond.methodLink "FeltedWash" (73 : Nat) yX11_refuse ∈ gtbl := gt_in (i := 280) rfl rfl
theorem w_282 : Cond.instanceMethod yX11_refuse ∈ gtbl := gt_in (i := 282) rfl rfl
theorem w_283 : Cond.code yX11_refuse prog_1_method_37_code (3 : Nat) (Option.some FieldType.int) ∈ gtbl := gt_in (i := 283) rfl rfl
theorem w_284 : Cond.methodLink "FeltedWashLaw" (18 : Nat) yX11_now ∈ gtbl := gt_in (i := 284) rfl rfl
theorem w_285 : Cond.instanceMethod yX11_now ∈ gtbl := gt_in (i := 285) rfl rfl
theorem w_286 : Cond.selects "FeltedWash" yX11_now yX11_now ∈ gtbl := gt_in (i := 286) rfl rfl
theorem w_287 : Cond.code yX11_now prog_1_method_3_code (2 : Nat) (Option.some FieldType.int) ∈ gtbl := gt_in (i := 287) rfl rfl
theorem w_288 : Cond.methodLink "FeltedWash" (80 : Nat) yX0_wetOnes ∈ gtbl := gt_in (i := 288) rfl rfl
theorem w_289 : Cond.instanceMethod yX0_wetOnes ∈ gtbl := gt_in (i := 289) rfl rfl
theorem w_290 : Cond.selects "FeltedWash$Basket" yX0_wetOnes yX0_wetOnes ∈ gtbl := gt_in (i := 290) rfl rfl
theorem w_291 : Cond.code yX0_wetOnes prog_2_method_9_code (3 : Nat) (Option.some FieldType.int) ∈ gtbl := gt_in (i := 291) rfl rfl
theorem w_292 : Cond.methodLink "FeltedWash" (84 : Nat) yX0_onesWithHoles ∈ gtbl := gt_in (i := 292) rfl rfl
theorem w_293 : Cond.instanceMethod yX0_onesWithHoles ∈ gtbl := gt_in (i := 293) rfl rfl
theorem w_294 : Cond.selects "FeltedWash$Basket" yX0_onesWithHoles yX0_onesWithHoles ∈ gtbl := gt_in (i := 294) rfl rfl
theorem w_295 : Cond.code yX0_onesWithHoles prog_2_method_10_code (3 : Nat) (Option.some FieldType.int) ∈ gtbl := gt_in (i := 295) rfl rfl
theorem w_296 : Cond.methodLink "FeltedWash" (87 : Nat) yX0_onesForAnybody ∈ gtbl := gt_in (i := 296) rfl rfl
theorem w_297 : Cond.instanceMethod yX0_onesForAnybody ∈ gtbl := gt_in (i := 297) rfl rfl
theorem w_298 : Cond.selects "FeltedWash$Basket" yX0_onesForAnybody yX0_onesForAnybody ∈ gtbl := gt_in (i := 298) rfl rfl
theorem w_299 : Cond.code yX0_onesForAnybody prog_2_method_12_code (3 : Nat) (Option.some FieldType.int) ∈ gtbl := gt_in (i := 299) rfl rfl
theorem w_300 : Cond.methodLink "FeltedWash$Basket" (78 : Nat) yX0_onesFor ∈ gtbl := gt_in (i := 300) rfl rfl
theorem w_301 : Cond.instanceMethod yX0_onesFor ∈ gtbl := gt_in (i := 301) rfl rfl
theorem w_302 : Cond.selects "FeltedWash$Basket" yX0_onesFor yX0_onesFor ∈ gtbl := gt_in (i := 302) rfl rfl
theorem w_303 : Cond.code yX0_onesFor prog_2_method_11_code (4 : Nat) (Option.some FieldType.int) ∈ gtbl := gt_in (i := 303) rfl rfl
theorem w_304 : Cond.methodLink "FeltedWash$Basket" (74 : Nat) yX2_suits ∈ gtbl := gt_in (i := 304) rfl rfl
theorem w_305 : Cond.instanceMethod yX2_suits ∈ gtbl := gt_in (i := 305) rfl rfl
theorem w_306 : Cond.selects "FeltedWash$Garment" yX2_suits yX2_suits ∈ gtbl := gt_in (i := 306) rfl rfl
theorem w_307 : Cond.code yX2_suits prog_4_method_9_code (2 : Nat) (Option.some FieldType.boolean) ∈ gtbl := gt_in (i := 307) rfl rfl
theorem w_309 : Cond.methodLink "FeltedWashLaw" (23 : Nat) yX11_garment ∈ gtbl := gt_in (i := 309) rfl rfl
theorem w_310 : Cond.instanceMethod yX11_garment ∈ gtbl := gt_in (i := 310) rfl rfl
theorem w_311 : Cond.selects "FeltedWash" yX11_garment yX11_garment ∈ gtbl := gt_in (i := 311) rfl rfl
theorem w_312 : Cond.code yX11_garment prog_1_method_4_code (3 : Nat) (Option.some FieldType.int) ∈ gtbl := gt_in (i := 312) rfl rfl
theorem w_313 : Cond.methodLink "FeltedWash" (90 : Nat) yX11_isKind ∈ gtbl := gt_in (i := 313) rfl rfl
theorem w_314 : Cond.static yX11_isKind ∈ gtbl := gt_in (i := 314) rfl rfl
theorem w_315 : Cond.code yX11_isKind prog_1_method_44_code (1 : Nat) (Option.some FieldType.boolean) ∈ gtbl := gt_in (i := 315) rfl rfl
theorem w_316 : Cond.methodLink "FeltedWash" (94 : Nat) yX0_addGarment ∈ gtbl := gt_in (i := 316) rfl rfl
theorem w_317 : Cond.instanceMethod yX0_addGarment ∈ gtbl := gt_in (i := 317) rfl rfl
theorem w_318 : Cond.selects "FeltedWash$Basket" yX0_addGarment yX0_addGarment ∈ gtbl := gt_in (i := 318) rfl rfl
theorem w_319 : Cond.code yX0_addGarment prog_2_method_6_code (4 : Nat) (Option.some (FieldType.object "FeltedWash$Garment")) ∈ gtbl := gt_in (i := 319) rfl rfl
theorem w_320 : Cond.methodLink "FeltedWash$Basket" (57 : Nat) yX0_kindAt ∈ gtbl := gt_in (i := 320) rfl rfl
theorem w_321 : Cond.instanceMethod yX0_kindAt ∈ gtbl := gt_in (i := 321) rfl rfl
theorem w_322 : Cond.selects "FeltedWash$Basket" yX0_kindAt yX0_kindAt ∈ gtbl := gt_in (i := 322) rfl rfl
theorem w_323 : Cond.code yX0_kindAt prog_2_method_3_code (2 : Nat) (Option.some (FieldType.object "FeltedWash$Kind")) ∈ gtbl := gt_in (i := 323) rfl rfl
theorem w_324 : Cond.methodLink "FeltedWash$Basket" (61 : Nat) yX2_beNew ∈ gtbl := gt_in (i := 324) rfl rfl
theorem w_325 : Cond.instanceMethod yX2_beNew ∈ gtbl := gt_in (i := 325) rfl rfl
theorem w_326 : Cond.selects "FeltedWash$Garment" yX2_beNew yX2_beNew ∈ gtbl := gt_in (i := 326) rfl rfl
theorem w_327 : Cond.code yX2_beNew prog_4_method_2_code (2 : Nat) (Option.none : Option FieldType) ∈ gtbl := gt_in (i := 327) rfl rfl
theorem w_328 : Cond.constant "FeltedWash" (98 : Nat) (-1000000002 : Int32) ∈ gtbl := gt_in (i := 328) rfl rfl
theorem w_329 : Cond.methodLink "FeltedWashLaw" (27 : Nat) yX11_of ∈ gtbl := gt_in (i := 329) rfl rfl
theorem w_330 : Cond.instanceMethod yX11_of ∈ gtbl := gt_in (i := 330) rfl rfl
theorem w_331 : Cond.selects "FeltedWash" yX11_of yX11_of ∈ gtbl := gt_in (i := 331) rfl rfl
theorem w_332 : Cond.code yX11_of prog_1_method_5_code (5 : Nat) (Option.some FieldType.int) ∈ gtbl := gt_in (i := 332) rfl rfl
theorem w_333 : Cond.methodLink "FeltedWash" (102 : Nat) yX0_garmentAt ∈ gtbl := gt_in (i := 333) rfl rfl
theorem w_334 : Cond.instanceMethod yX0_garmentAt ∈ gtbl := gt_in (i := 334) rfl rfl
theorem w_335 : Cond.selects "FeltedWash$Basket" yX0_garmentAt yX0_garmentAt ∈ gtbl := gt_in (i := 335) rfl rfl
theorem w_336 : Cond.code yX0_garmentAt prog_2_method_4_code (2 : Nat) (Option.some (FieldType.object "FeltedWash$Garment")) ∈ gtbl := gt_in (i := 336) rfl rfl
theorem w_337 : Cond.methodLink "FeltedWash" (109 : Nat) yX4_shrinks ∈ gtbl := gt_in (i := 337) rfl rfl
theorem w_338 : Cond.instanceMethod yX4_shrinks ∈ gtbl := gt_in (i := 338) rfl rfl
theorem w_339 : Cond.selects "FeltedWash$Kind" yX4_shrinks yX4_shrinks ∈ gtbl := gt_in (i := 339) rfl rfl
theorem w_340 : Cond.sameMethod "FeltedWash$Kind" "FeltedWash$Kind" "shrinks" "(II)I" ∈ gtbl := gt_in (i := 340) rfl rfl
theorem w_341 : Cond.selects "FeltedWash$Cotton" yX4_shrinks yX1_shrinks ∈ gtbl := gt_in (i := 341) rfl rfl
theorem w_342 : Cond.instanceMethod yX1_shrinks ∈ gtbl := gt_in (i := 342) rfl rfl
theorem w_343 : Cond.code yX1_shrinks prog_3_method_2_code (3 : Nat) (Option.some FieldType.int) ∈ gtbl := gt_in (i := 343) rfl rfl
theorem w_344 : Cond.selects "FeltedWash$Jumper" yX4_shrinks yX3_shrinks ∈ gtbl := gt_in (i := 344) rfl rfl
theorem w_345 : Cond.instanceMethod yX3_shrinks ∈ gtbl := gt_in (i := 345) rfl rfl
theorem w_346 : Cond.code yX3_shrinks prog_5_method_2_code (4 : Nat) (Option.some FieldType.int) ∈ gtbl := gt_in (i := 346) rfl rfl
theorem w_347 : Cond.methodLink "FeltedWash$Jumper" (7 : Nat) yX10_shrinks ∈ gtbl := gt_in (i := 347) rfl rfl
theorem w_348 : Cond.instanceMethod yX10_shrinks ∈ gtbl := gt_in (i := 348) rfl rfl
theorem w_349 : Cond.code yX10_shrinks prog_12_method_2_code (3 : Nat) (Option.some FieldType.int) ∈ gtbl := gt_in (i := 349) rfl rfl
theorem w_350 : Cond.selects "FeltedWash$Silk" yX4_shrinks yX7_shrinks ∈ gtbl := gt_in (i := 350) rfl rfl
theorem w_351 : Cond.instanceMethod yX7_shrinks ∈ gtbl := gt_in (i := 351) rfl rfl
theorem w_352 : Cond.code yX7_shrinks prog_9_method_2_code (3 : Nat) (Option.some FieldType.int) ∈ gtbl := gt_in (i := 352) rfl rfl
theorem w_353 : Cond.selects "FeltedWash$Sock" yX4_shrinks yX8_shrinks ∈ gtbl := gt_in (i := 353) rfl rfl
theorem w_354 : Cond.instanceMethod yX8_shrinks ∈ gtbl := gt_in (i := 354) rfl rfl
theorem w_355 : Cond.code yX8_shrinks prog_10_method_2_code (3 : Nat) (Option.some FieldType.int) ∈ gtbl := gt_in (i := 355) rfl rfl
theorem w_356 : Cond.methodLink "FeltedWash$Sock" (7 : Nat) yX1_shrinks ∈ gtbl := gt_in (i := 356) rfl rfl
theorem w_357 : Cond.selects "FeltedWash$Wool" yX4_shrinks yX10_shrinks ∈ gtbl := gt_in (i := 357) rfl rfl
theorem w_358 : Cond.code yX4_shrinks prog_6_method_4_code (3 : Nat) (Option.some FieldType.int) ∈ gtbl := gt_in (i := 358) rfl rfl
theorem w_359 : Cond.methodLink "FeltedWash" (134 : Nat) yX4_felts ∈ gtbl := gt_in (i := 359) rfl rfl
theorem w_360 : Cond.instanceMethod yX4_felts ∈ gtbl := gt_in (i := 360) rfl rfl
theorem w_361 : Cond.selects "FeltedWash$Kind" yX4_felts yX4_felts ∈ gtbl := gt_in (i := 361) rfl rfl
theorem w_362 : Cond.sameMethod "FeltedWash$Kind" "FeltedWash$Kind" "felts" "(I)I" ∈ gtbl := gt_in (i := 362) rfl rfl
theorem w_363 : Cond.selects "FeltedWash$Cotton" yX4_felts yX4_felts ∈ gtbl := gt_in (i := 363) rfl rfl
theorem w_364 : Cond.selects "FeltedWash$Jumper" yX4_felts yX3_felts ∈ gtbl := gt_in (i := 364) rfl rfl
theorem w_365 : Cond.instanceMethod yX3_felts ∈ gtbl := gt_in (i := 365) rfl rfl
theorem w_366 : Cond.code yX3_felts prog_5_method_3_code (2 : Nat) (Option.some FieldType.int) ∈ gtbl := gt_in (i := 366) rfl rfl
theorem w_367 : Cond.methodLink "FeltedWash$Jumper" (11 : Nat) yX10_felts ∈ gtbl := gt_in (i := 367) rfl rfl
theorem w_368 : Cond.instanceMethod yX10_felts ∈ gtbl := gt_in (i := 368) rfl rfl
theorem w_369 : Cond.code yX10_felts prog_12_method_3_code (2 : Nat) (Option.some FieldType.int) ∈ gtbl := gt_in (i := 369) rfl rfl
theorem w_370 : Cond.selects "FeltedWash$Silk" yX4_felts yX4_felts ∈ gtbl := gt_in (i := 370) rfl rfl
theorem w_371 : Cond.selects "FeltedWash$Sock" yX4_felts yX8_felts ∈ gtbl := gt_in (i := 371) rfl rfl
theorem w_372 : Cond.instanceMethod yX8_felts ∈ gtbl := gt_in (i := 372) rfl rfl
theorem w_373 : Cond.code yX8_felts prog_10_method_3_code (2 : Nat) (Option.some FieldType.int) ∈ gtbl := gt_in (i := 373) rfl rfl
theorem w_374 : Cond.methodLink "FeltedWash$Sock" (11 : Nat) ⟨"FeltedWash$Cotton", "felts", "(I)I"⟩ ∈ gtbl := gt_in (i := 374) rfl rfl
theorem w_375 : Cond.sameMethod "FeltedWash$Cotton" "FeltedWash$Kind" "felts" "(I)I" ∈ gtbl := gt_in (i := 375) rfl rfl
theorem w_377 : Cond.selects "FeltedWash$Wool" yX4_felts yX10_felts ∈ gtbl := gt_in (i := 377) rfl rfl
theorem w_378 : Cond.code yX4_felts prog_6_method_5_code (2 : Nat) (Option.some FieldType.int) ∈ gtbl := gt_in (i := 378) rfl rfl
theorem w_379 : Cond.methodLink "FeltedWash" (137 : Nat) yX4_bears ∈ gtbl := gt_in (i := 379) rfl rfl
theorem w_380 : Cond.instanceMethod yX4_bears ∈ gtbl := gt_in (i := 380) rfl rfl
theorem w_381 : Cond.selects "FeltedWash$Kind" yX4_bears yX4_bears ∈ gtbl := gt_in (i := 381) rfl rfl
theorem w_382 : Cond.sameMethod "FeltedWash$Kind" "FeltedWash$Kind" "bears" "(II)I" ∈ gtbl := gt_in (i := 382) rfl rfl
theorem w_383 : Cond.selects "FeltedWash$Cotton" yX4_bears yX1_bears ∈ gtbl := gt_in (i := 383) rfl rfl
theorem w_384 : Cond.instanceMethod yX1_bears ∈ gtbl := gt_in (i := 384) rfl rfl
theorem w_385 : Cond.code yX1_bears prog_3_method_3_code (3 : Nat) (Option.some FieldType.int) ∈ gtbl := gt_in (i := 385) rfl rfl
theorem w_386 : Cond.selects "FeltedWash$Jumper" yX4_bears yX3_bears ∈ gtbl := gt_in (i := 386) rfl rfl
theorem w_387 : Cond.instanceMethod yX3_bears ∈ gtbl := gt_in (i := 387) rfl rfl
theorem w_388 : Cond.code yX3_bears prog_5_method_4_code (3 : Nat) (Option.some FieldType.int) ∈ gtbl := gt_in (i := 388) rfl rfl
theorem w_389 : Cond.methodLink "FeltedWash$Jumper" (15 : Nat) yX10_bears ∈ gtbl := gt_in (i := 389) rfl rfl
theorem w_390 : Cond.instanceMethod yX10_bears ∈ gtbl := gt_in (i := 390) rfl rfl
theorem w_391 : Cond.code yX10_bears prog_12_method_4_code (3 : Nat) (Option.some FieldType.int) ∈ gtbl := gt_in (i := 391) rfl rfl
theorem w_392 : Cond.methodLink "FeltedWash$Wool" (7 : Nat) yX4_bears ∈ gtbl := gt_in (i := 392) rfl rfl
theorem w_393 : Cond.selects "FeltedWash$Silk" yX4_bears yX7_bears ∈ gtbl := gt_in (i := 393) rfl rfl
theorem w_394 : Cond.instanceMethod yX7_bears ∈ gtbl := gt_in (i := 394) rfl rfl
theorem w_395 : Cond.code yX7_bears prog_9_method_3_code (3 : Nat) (Option.some FieldType.int) ∈ gtbl := gt_in (i := 395) rfl rfl
theorem w_396 : Cond.methodLink "FeltedWash$Silk" (7 : Nat) yX4_bears ∈ gtbl := gt_in (i := 396) rfl rfl
theorem w_397 : Cond.selects "FeltedWash$Sock" yX4_bears yX8_bears ∈ gtbl := gt_in (i := 397) rfl rfl
theorem w_398 : Cond.instanceMethod yX8_bears ∈ gtbl := gt_in (i := 398) rfl rfl
theorem w_399 : Cond.code yX8_bears prog_10_method_4_code (3 : Nat) (Option.some FieldType.int) ∈ gtbl := gt_in (i := 399) rfl rfl
set_option maxRecDepth 20000 in
theorem w_400 : Cond.methodLink "FeltedWash$Sock" (15 : Nat) yX1_bears ∈ gtbl := gt_in (i := 400) rfl rfl
set_option maxRecDepth 20000 in
theorem w_401 : Cond.selects "FeltedWash$Wool" yX4_bears yX10_bears ∈ gtbl := gt_in (i := 401) rfl rfl
set_option maxRecDepth 20000 in
theorem w_402 : Cond.code yX4_bears prog_6_method_6_code (3 : Nat) (Option.some FieldType.int) ∈ gtbl := gt_in (i := 402) rfl rfl
set_option maxRecDepth 20000 in
theorem w_403 : Cond.methodLink "FeltedWash" (140 : Nat) yX4_keeps ∈ gtbl := gt_in (i := 403) rfl rfl
set_option maxRecDepth 20000 in
theorem w_404 : Cond.instanceMethod yX4_keeps ∈ gtbl := gt_in (i := 404) rfl rfl
set_option maxRecDepth 20000 in
theorem w_405 : Cond.selects "FeltedWash$Kind" yX4_keeps yX4_keeps ∈ gtbl := gt_in (i := 405) rfl rfl
set_option maxRecDepth 20000 in
theorem w_406 : Cond.sameMethod "FeltedWash$Kind" "FeltedWash$Kind" "keeps" "()I" ∈ gtbl := gt_in (i := 406) rfl rfl
set_option maxRecDepth 20000 in
theorem w_407 : Cond.selects "FeltedWash$Cotton" yX4_keeps yX1_keeps ∈ gtbl := gt_in (i := 407) rfl rfl
set_option maxRecDepth 20000 in
theorem w_408 : Cond.instanceMethod yX1_keeps ∈ gtbl := gt_in (i := 408) rfl rfl
set_option maxRecDepth 20000 in
theorem w_409 : Cond.code yX1_keeps prog_3_method_4_code (1 : Nat) (Option.some FieldType.int) ∈ gtbl := gt_in (i := 409) rfl rfl
set_option maxRecDepth 20000 in
theorem w_410 : Cond.selects "FeltedWash$Jumper" yX4_keeps yX3_keeps ∈ gtbl := gt_in (i := 410) rfl rfl
set_option maxRecDepth 20000 in
theorem w_411 : Cond.instanceMethod yX3_keeps ∈ gtbl := gt_in (i := 411) rfl rfl
set_option maxRecDepth 20000 in
theorem w_412 : Cond.code yX3_keeps prog_5_method_5_code (1 : Nat) (Option.some FieldType.int) ∈ gtbl := gt_in (i := 412) rfl rfl
set_option maxRecDepth 20000 in
theorem w_413 : Cond.methodLink "FeltedWash$Jumper" (18 : Nat) ⟨"FeltedWash$Wool", "keeps", "()I"⟩ ∈ gtbl := gt_in (i := 413) rfl rfl
set_option maxRecDepth 20000 in
theorem w_414 : Cond.sameMethod "FeltedWash$Wool" "FeltedWash$Kind" "keeps" "()I" ∈ gtbl := gt_in (i := 414) rfl rfl
set_option maxRecDepth 20000 in
theorem w_416 : Cond.selects "FeltedWash$Silk" yX4_keeps yX7_keeps ∈ gtbl := gt_in (i := 416) rfl rfl
set_option maxRecDepth 20000 in
theorem w_417 : Cond.instanceMethod yX7_keeps ∈ gtbl := gt_in (i := 417) rfl rfl
set_option maxRecDepth 20000 in
theorem w_418 : Cond.code yX7_keeps prog_9_method_4_code (1 : Nat) (Option.some FieldType.int) ∈ gtbl := gt_in (i := 418) rfl rfl
set_option maxRecDepth 20000 in
theorem w_419 : Cond.methodLink "FeltedWash$Silk" (11 : Nat) yX4_keeps ∈ gtbl := gt_in (i := 419) rfl rfl
set_option maxRecDepth 20000 in
theorem w_420 : Cond.selects "FeltedWash$Sock" yX4_keeps yX1_keeps ∈ gtbl := gt_in (i := 420) rfl rfl
set_option maxRecDepth 20000 in
theorem w_421 : Cond.selects "FeltedWash$Wool" yX4_keeps yX4_keeps ∈ gtbl := gt_in (i := 421) rfl rfl
set_option maxRecDepth 20000 in
theorem w_422 : Cond.code yX4_keeps prog_6_method_7_code (1 : Nat) (Option.some FieldType.int) ∈ gtbl := gt_in (i := 422) rfl rfl
set_option maxRecDepth 20000 in
theorem w_423 : Cond.methodLink "FeltedWashLaw" (31 : Nat) yX11_set ∈ gtbl := gt_in (i := 423) rfl rfl
set_option maxRecDepth 20000 in
theorem w_424 : Cond.instanceMethod yX11_set ∈ gtbl := gt_in (i := 424) rfl rfl
set_option maxRecDepth 20000 in
theorem w_425 : Cond.selects "FeltedWash" yX11_set yX11_set ∈ gtbl := gt_in (i := 425) rfl rfl
set_option maxRecDepth 20000 in
theorem w_426 : Cond.code yX11_set prog_1_method_6_code (6 : Nat) (Option.some FieldType.int) ∈ gtbl := gt_in (i := 426) rfl rfl
set_option maxRecDepth 20000 in
theorem w_427 : Cond.methodLink "FeltedWash" (143 : Nat) yX11_maySet ∈ gtbl := gt_in (i := 427) rfl rfl
set_option maxRecDepth 20000 in
theorem w_428 : Cond.static yX11_maySet ∈ gtbl := gt_in (i := 428) rfl rfl
set_option maxRecDepth 20000 in
theorem w_429 : Cond.code yX11_maySet prog_1_method_46_code (2 : Nat) (Option.some FieldType.boolean) ∈ gtbl := gt_in (i := 429) rfl rfl
set_option maxRecDepth 20000 in
theorem w_430 : Cond.methodLink "FeltedWash" (164 : Nat) yX11_isSpan ∈ gtbl := gt_in (i := 430) rfl rfl
set_option maxRecDepth 20000 in
theorem w_431 : Cond.static yX11_isSpan ∈ gtbl := gt_in (i := 431) rfl rfl
set_option maxRecDepth 20000 in
theorem w_432 : Cond.code yX11_isSpan prog_1_method_45_code (1 : Nat) (Option.some FieldType.boolean) ∈ gtbl := gt_in (i := 432) rfl rfl
set_option maxRecDepth 20000 in
theorem w_433 : Cond.methodLink "FeltedWashLaw" (36 : Nat) yX11_wash ∈ gtbl := gt_in (i := 433) rfl rfl
set_option maxRecDepth 20000 in
theorem w_434 : Cond.instanceMethod yX11_wash ∈ gtbl := gt_in (i := 434) rfl rfl
set_option maxRecDepth 20000 in
theorem w_435 : Cond.selects "FeltedWash" yX11_wash yX11_wash ∈ gtbl := gt_in (i := 435) rfl rfl
set_option maxRecDepth 20000 in
theorem w_436 : Cond.code yX11_wash prog_1_method_7_code (3 : Nat) (Option.some FieldType.int) ∈ gtbl := gt_in (i := 436) rfl rfl
set_option maxRecDepth 20000 in
theorem w_437 : Cond.methodLink "FeltedWash" (147 : Nat) yX2_goThroughWash ∈ gtbl := gt_in (i := 437) rfl rfl
set_option maxRecDepth 20000 in
theorem w_438 : Cond.instanceMethod yX2_goThroughWash ∈ gtbl := gt_in (i := 438) rfl rfl
set_option maxRecDepth 20000 in
theorem w_439 : Cond.selects "FeltedWash$Garment" yX2_goThroughWash yX2_goThroughWash ∈ gtbl := gt_in (i := 439) rfl rfl
set_option maxRecDepth 20000 in
theorem w_440 : Cond.code yX2_goThroughWash prog_4_method_4_code (4 : Nat) (Option.none : Option FieldType) ∈ gtbl := gt_in (i := 440) rfl rfl
set_option maxRecDepth 20000 in
theorem w_441 : Cond.methodLink "FeltedWash$Garment" (34 : Nat) yX4_shrinks ∈ gtbl := gt_in (i := 441) rfl rfl
set_option maxRecDepth 20000 in
theorem w_442 : Cond.methodLink "FeltedWash$Garment" (40 : Nat) yJ9_max_7cf53 ∈ gtbl := gt_in (i := 442) rfl rfl
set_option maxRecDepth 20000 in
theorem w_443 : Cond.static yJ9_max_7cf53 ∈ gtbl := gt_in (i := 443) rfl rfl
set_option maxRecDepth 20000 in
theorem w_444 : Cond.code yJ9_max_7cf53 prog_16_method_65_code (2 : Nat) (Option.some FieldType.int) ∈ gtbl := gt_in (i := 444) rfl rfl
set_option maxRecDepth 20000 in
theorem w_445 : Cond.methodLink "FeltedWash$Garment" (45 : Nat) yX4_felts ∈ gtbl := gt_in (i := 445) rfl rfl
set_option maxRecDepth 20000 in
theorem w_446 : Cond.methodLink "FeltedWash$Garment" (49 : Nat) yJ9_min_7cf53 ∈ gtbl := gt_in (i := 446) rfl rfl
set_option maxRecDepth 20000 in
theorem w_447 : Cond.static yJ9_min_7cf53 ∈ gtbl := gt_in (i := 447) rfl rfl
set_option maxRecDepth 20000 in
theorem w_448 : Cond.code yJ9_min_7cf53 prog_16_method_69_code (2 : Nat) (Option.some FieldType.int) ∈ gtbl := gt_in (i := 448) rfl rfl
set_option maxRecDepth 20000 in
theorem w_449 : Cond.methodLink "FeltedWashLaw" (40 : Nat) yX11_draw ∈ gtbl := gt_in (i := 449) rfl rfl
set_option maxRecDepth 20000 in
theorem w_450 : Cond.instanceMethod yX11_draw ∈ gtbl := gt_in (i := 450) rfl rfl
set_option maxRecDepth 20000 in
theorem w_451 : Cond.selects "FeltedWash" yX11_draw yX11_draw ∈ gtbl := gt_in (i := 451) rfl rfl
set_option maxRecDepth 20000 in
theorem w_452 : Cond.code yX11_draw prog_1_method_8_code (4 : Nat) (Option.some FieldType.int) ∈ gtbl := gt_in (i := 452) rfl rfl
set_option maxRecDepth 20000 in
theorem w_453 : Cond.constant "FeltedWash" (151 : Nat) (-1000000005 : Int32) ∈ gtbl := gt_in (i := 453) rfl rfl
set_option maxRecDepth 20000 in
theorem w_454 : Cond.methodLink "FeltedWash" (152 : Nat) yX2_stretch ∈ gtbl := gt_in (i := 454) rfl rfl
set_option maxRecDepth 20000 in
theorem w_455 : Cond.instanceMethod yX2_stretch ∈ gtbl := gt_in (i := 455) rfl rfl
set_option maxRecDepth 20000 in
theorem w_456 : Cond.selects "FeltedWash$Garment" yX2_stretch yX2_stretch ∈ gtbl := gt_in (i := 456) rfl rfl
set_option maxRecDepth 20000 in
theorem w_457 : Cond.code yX2_stretch prog_4_method_6_code (2 : Nat) (Option.none : Option FieldType) ∈ gtbl := gt_in (i := 457) rfl rfl
set_option maxRecDepth 20000 in
theorem w_458 : Cond.methodLink "FeltedWash$Garment" (56 : Nat) yX4_bears ∈ gtbl := gt_in (i := 458) rfl rfl
set_option maxRecDepth 20000 in
theorem w_459 : Cond.methodLink "FeltedWashLaw" (44 : Nat) yX11_turn ∈ gtbl := gt_in (i := 459) rfl rfl
set_option maxRecDepth 20000 in
theorem w_460 : Cond.instanceMethod yX11_turn ∈ gtbl := gt_in (i := 460) rfl rfl
set_option maxRecDepth 20000 in
theorem w_461 : Cond.selects "FeltedWash" yX11_turn yX11_turn ∈ gtbl := gt_in (i := 461) rfl rfl
set_option maxRecDepth 20000 in
theorem w_462 : Cond.code yX11_turn prog_1_method_9_code (6 : Nat) (Option.some FieldType.int) ∈ gtbl := gt_in (i := 462) rfl rfl
set_option maxRecDepth 20000 in
theorem w_463 : Cond.methodLink "FeltedWash" (156 : Nat) yX0_kindAt ∈ gtbl := gt_in (i := 463) rfl rfl
set_option maxRecDepth 20000 in
theorem w_464 : Cond.methodLink "FeltedWashLaw" (48 : Nat) yX11_as ∈ gtbl := gt_in (i := 464) rfl rfl
set_option maxRecDepth 20000 in
theorem w_465 : Cond.instanceMethod yX11_as ∈ gtbl := gt_in (i := 465) rfl rfl
set_option maxRecDepth 20000 in
theorem w_466 : Cond.selects "FeltedWash" yX11_as yX11_as ∈ gtbl := gt_in (i := 466) rfl rfl
set_option maxRecDepth 20000 in
theorem w_467 : Cond.code yX11_as prog_1_method_10_code (4 : Nat) (Option.some FieldType.int) ∈ gtbl := gt_in (i := 467) rfl rfl
set_option maxRecDepth 20000 in
theorem w_468 : Cond.methodLink "FeltedWash" (160 : Nat) yX4_isOrIsUnder ∈ gtbl := gt_in (i := 468) rfl rfl
set_option maxRecDepth 20000 in
theorem w_469 : Cond.instanceMethod yX4_isOrIsUnder ∈ gtbl := gt_in (i := 469) rfl rfl
set_option maxRecDepth 20000 in
theorem w_470 : Cond.selects "FeltedWash$Kind" yX4_isOrIsUnder yX4_isOrIsUnder ∈ gtbl := gt_in (i := 470) rfl rfl
set_option maxRecDepth 20000 in
theorem w_471 : Cond.sameMethod "FeltedWash$Kind" "FeltedWash$Kind" "isOrIsUnder" "(I)Z" ∈ gtbl := gt_in (i := 471) rfl rfl
set_option maxRecDepth 20000 in
theorem w_472 : Cond.selects "FeltedWash$Cotton" yX4_isOrIsUnder yX4_isOrIsUnder ∈ gtbl := gt_in (i := 472) rfl rfl
set_option maxRecDepth 20000 in
theorem w_473 : Cond.selects "FeltedWash$Jumper" yX4_isOrIsUnder yX4_isOrIsUnder ∈ gtbl := gt_in (i := 473) rfl rfl
set_option maxRecDepth 20000 in
theorem w_474 : Cond.selects "FeltedWash$Silk" yX4_isOrIsUnder yX4_isOrIsUnder ∈ gtbl := gt_in (i := 474) rfl rfl
set_option maxRecDepth 20000 in
theorem w_475 : Cond.selects "FeltedWash$Sock" yX4_isOrIsUnder yX4_isOrIsUnder ∈ gtbl := gt_in (i := 475) rfl rfl
set_option maxRecDepth 20000 in
theorem w_476 : Cond.selects "FeltedWash$Wool" yX4_isOrIsUnder yX4_isOrIsUnder ∈ gtbl := gt_in (i := 476) rfl rfl
set_option maxRecDepth 20000 in
theorem w_477 : Cond.code yX4_isOrIsUnder prog_6_method_3_code (3 : Nat) (Option.some FieldType.boolean) ∈ gtbl := gt_in (i := 477) rfl rfl
set_option maxRecDepth 20000 in
theorem w_478 : Cond.constant "FeltedWash" (163 : Nat) (-1000000003 : Int32) ∈ gtbl := gt_in (i := 478) rfl rfl
set_option maxRecDepth 20000 in
theorem w_479 : Cond.methodLink "FeltedWashLaw" (52 : Nat) yX11_person ∈ gtbl := gt_in (i := 479) rfl rfl
set_option maxRecDepth 20000 in
theorem w_480 : Cond.instanceMethod yX11_person ∈ gtbl := gt_in (i := 480) rfl rfl
set_option maxRecDepth 20000 in
theorem w_481 : Cond.selects "FeltedWash" yX11_person yX11_person ∈ gtbl := gt_in (i := 481) rfl rfl
set_option maxRecDepth 20000 in
theorem w_482 : Cond.code yX11_person prog_1_method_11_code (4 : Nat) (Option.some FieldType.int) ∈ gtbl := gt_in (i := 482) rfl rfl
set_option maxRecDepth 20000 in
theorem w_483 : Cond.methodLink "FeltedWash" (167 : Nat) yX0_addPerson ∈ gtbl := gt_in (i := 483) rfl rfl
set_option maxRecDepth 20000 in
theorem w_484 : Cond.instanceMethod yX0_addPerson ∈ gtbl := gt_in (i := 484) rfl rfl
set_option maxRecDepth 20000 in
theorem w_485 : Cond.selects "FeltedWash$Basket" yX0_addPerson yX0_addPerson ∈ gtbl := gt_in (i := 485) rfl rfl
set_option maxRecDepth 20000 in
theorem w_486 : Cond.code yX0_addPerson prog_2_method_7_code (4 : Nat) (Option.some (FieldType.object "FeltedWash$Person")) ∈ gtbl := gt_in (i := 486) rfl rfl
set_option maxRecDepth 20000 in
theorem w_487 : Cond.methodLink "FeltedWashLaw" (56 : Nat) yX11_size ∈ gtbl := gt_in (i := 487) rfl rfl
set_option maxRecDepth 20000 in
theorem w_488 : Cond.instanceMethod yX11_size ∈ gtbl := gt_in (i := 488) rfl rfl
set_option maxRecDepth 20000 in
theorem w_489 : Cond.selects "FeltedWash" yX11_size yX11_size ∈ gtbl := gt_in (i := 489) rfl rfl
set_option maxRecDepth 20000 in
theorem w_490 : Cond.code yX11_size prog_1_method_12_code (4 : Nat) (Option.some FieldType.int) ∈ gtbl := gt_in (i := 490) rfl rfl
set_option maxRecDepth 20000 in
theorem w_491 : Cond.methodLink "FeltedWash" (174 : Nat) yX0_personAt ∈ gtbl := gt_in (i := 491) rfl rfl
set_option maxRecDepth 20000 in
theorem w_492 : Cond.instanceMethod yX0_personAt ∈ gtbl := gt_in (i := 492) rfl rfl
set_option maxRecDepth 20000 in
theorem w_493 : Cond.selects "FeltedWash$Basket" yX0_personAt yX0_personAt ∈ gtbl := gt_in (i := 493) rfl rfl
set_option maxRecDepth 20000 in
theorem w_494 : Cond.code yX0_personAt prog_2_method_5_code (2 : Nat) (Option.some (FieldType.object "FeltedWash$Person")) ∈ gtbl := gt_in (i := 494) rfl rfl
set_option maxRecDepth 20000 in
theorem w_495 : Cond.methodLink "FeltedWashLaw" (60 : Nat) yX11_fits ∈ gtbl := gt_in (i := 495) rfl rfl
set_option maxRecDepth 20000 in
theorem w_496 : Cond.instanceMethod yX11_fits ∈ gtbl := gt_in (i := 496) rfl rfl
set_option maxRecDepth 20000 in
theorem w_497 : Cond.selects "FeltedWash" yX11_fits yX11_fits ∈ gtbl := gt_in (i := 497) rfl rfl
set_option maxRecDepth 20000 in
theorem w_498 : Cond.code yX11_fits prog_1_method_13_code (3 : Nat) (Option.some FieldType.int) ∈ gtbl := gt_in (i := 498) rfl rfl
set_option maxRecDepth 20000 in
theorem w_499 : Cond.methodLink "FeltedWash" (182 : Nat) yX0_onesFor ∈ gtbl := gt_in (i := 499) rfl rfl
set_option maxRecDepth 20000 in
theorem w_500 : Cond.methodLink "FeltedWashLaw" (64 : Nat) yX11_days ∈ gtbl := gt_in (i := 500) rfl rfl
set_option maxRecDepth 20000 in
theorem w_501 : Cond.instanceMethod yX11_days ∈ gtbl := gt_in (i := 501) rfl rfl
set_option maxRecDepth 20000 in
theorem w_502 : Cond.selects "FeltedWash" yX11_days yX11_days ∈ gtbl := gt_in (i := 502) rfl rfl
set_option maxRecDepth 20000 in
theorem w_503 : Cond.code yX11_days prog_1_method_14_code (2 : Nat) (Option.some FieldType.int) ∈ gtbl := gt_in (i := 503) rfl rfl
set_option maxRecDepth 20000 in
theorem w_504 : Cond.constant "FeltedWash" (186 : Nat) (99999 : Int32) ∈ gtbl := gt_in (i := 504) rfl rfl
set_option maxRecDepth 20000 in
theorem w_505 : Cond.methodLink "FeltedWash" (187 : Nat) yX0_letDaysGo ∈ gtbl := gt_in (i := 505) rfl rfl
set_option maxRecDepth 20000 in
theorem w_506 : Cond.instanceMethod yX0_letDaysGo ∈ gtbl := gt_in (i := 506) rfl rfl
set_option maxRecDepth 20000 in
theorem w_507 : Cond.selects "FeltedWash$Basket" yX0_letDaysGo yX0_letDaysGo ∈ gtbl := gt_in (i := 507) rfl rfl
set_option maxRecDepth 20000 in
theorem w_508 : Cond.code yX0_letDaysGo prog_2_method_8_code (3 : Nat) (Option.none : Option FieldType) ∈ gtbl := gt_in (i := 508) rfl rfl
set_option maxRecDepth 20000 in
theorem w_509 : Cond.methodLink "FeltedWash$Basket" (64 : Nat) yX2_dryFor ∈ gtbl := gt_in (i := 509) rfl rfl
set_option maxRecDepth 20000 in
theorem w_510 : Cond.instanceMethod yX2_dryFor ∈ gtbl := gt_in (i := 510) rfl rfl
set_option maxRecDepth 20000 in
theorem w_511 : Cond.selects "FeltedWash$Garment" yX2_dryFor yX2_dryFor ∈ gtbl := gt_in (i := 511) rfl rfl
set_option maxRecDepth 20000 in
theorem w_512 : Cond.code yX2_dryFor prog_4_method_7_code (3 : Nat) (Option.none : Option FieldType) ∈ gtbl := gt_in (i := 512) rfl rfl
set_option maxRecDepth 20000 in
theorem w_513 : Cond.methodLink "FeltedWash$Garment" (59 : Nat) yX2_dryOneDay ∈ gtbl := gt_in (i := 513) rfl rfl
set_option maxRecDepth 20000 in
theorem w_515 : Cond.instanceMethod yX2_dryOneDay ∈ gtbl := gt_in (i := 515) rfl rfl
set_option maxRecDepth 20000 in
theorem w_516 : Cond.code yX2_dryOneDay prog_4_method_8_code (1 : Nat) (Option.none : Option FieldType) ∈ gtbl := gt_in (i := 516) rfl rfl
set_option maxRecDepth 20000 in
theorem w_517 : Cond.methodLink "FeltedWash$Garment" (62 : Nat) yX4_keeps ∈ gtbl := gt_in (i := 517) rfl rfl
set_option maxRecDepth 20000 in
theorem w_518 : Cond.methodLink "FeltedWashLaw" (68 : Nat) yX11_on ∈ gtbl := gt_in (i := 518) rfl rfl
set_option maxRecDepth 20000 in
theorem w_519 : Cond.instanceMethod yX11_on ∈ gtbl := gt_in (i := 519) rfl rfl
set_option maxRecDepth 20000 in
theorem w_520 : Cond.selects "FeltedWash" yX11_on yX11_on ∈ gtbl := gt_in (i := 520) rfl rfl
set_option maxRecDepth 20000 in
theorem w_521 : Cond.code yX11_on prog_1_method_15_code (5 : Nat) (Option.some FieldType.int) ∈ gtbl := gt_in (i := 521) rfl rfl
set_option maxRecDepth 20000 in
theorem w_522 : Cond.methodLink "FeltedWash" (190 : Nat) yX2_become ∈ gtbl := gt_in (i := 522) rfl rfl
set_option maxRecDepth 20000 in
theorem w_523 : Cond.instanceMethod yX2_become ∈ gtbl := gt_in (i := 523) rfl rfl
set_option maxRecDepth 20000 in
theorem w_524 : Cond.selects "FeltedWash$Garment" yX2_become yX2_become ∈ gtbl := gt_in (i := 524) rfl rfl
set_option maxRecDepth 20000 in
theorem w_525 : Cond.code yX2_become prog_4_method_3_code (2 : Nat) (Option.none : Option FieldType) ∈ gtbl := gt_in (i := 525) rfl rfl
set_option maxRecDepth 20000 in
theorem w_526 : Cond.methodLink "FeltedWash" (194 : Nat) yX2_dryFor ∈ gtbl := gt_in (i := 526) rfl rfl
set_option maxRecDepth 20000 in
theorem w_527 : Cond.methodLink "FeltedWashLaw" (72 : Nat) yX11_again ∈ gtbl := gt_in (i := 527) rfl rfl
set_option maxRecDepth 20000 in
theorem w_528 : Cond.instanceMethod yX11_again ∈ gtbl := gt_in (i := 528) rfl rfl
set_option maxRecDepth 20000 in
theorem w_529 : Cond.selects "FeltedWash" yX11_again yX11_again ∈ gtbl := gt_in (i := 529) rfl rfl
set_option maxRecDepth 20000 in
theorem w_530 : Cond.code yX11_again prog_1_method_16_code (5 : Nat) (Option.some FieldType.int) ∈ gtbl := gt_in (i := 530) rfl rfl
set_option maxRecDepth 20000 in
theorem w_531 : Cond.methodLink "FeltedWash" (197 : Nat) yX11_tryWashes ∈ gtbl := gt_in (i := 531) rfl rfl
set_option maxRecDepth 20000 in
theorem w_533 : Cond.instanceMethod yX11_tryWashes ∈ gtbl := gt_in (i := 533) rfl rfl
set_option maxRecDepth 20000 in
theorem w_534 : Cond.code yX11_tryWashes prog_1_method_39_code (3 : Nat) (Option.none : Option FieldType) ∈ gtbl := gt_in (i := 534) rfl rfl
set_option maxRecDepth 20000 in
theorem w_535 : Cond.methodLink "FeltedWash" (210 : Nat) yX2_goThroughWashes ∈ gtbl := gt_in (i := 535) rfl rfl
set_option maxRecDepth 20000 in
theorem w_536 : Cond.instanceMethod yX2_goThroughWashes ∈ gtbl := gt_in (i := 536) rfl rfl
set_option maxRecDepth 20000 in
theorem w_537 : Cond.selects "FeltedWash$Garment" yX2_goThroughWashes yX2_goThroughWashes ∈ gtbl := gt_in (i := 537) rfl rfl
set_option maxRecDepth 20000 in
theorem w_538 : Cond.code yX2_goThroughWashes prog_4_method_5_code (5 : Nat) (Option.none : Option FieldType) ∈ gtbl := gt_in (i := 538) rfl rfl
set_option maxRecDepth 20000 in
theorem w_539 : Cond.methodLink "FeltedWash$Garment" (52 : Nat) yX2_goThroughWash ∈ gtbl := gt_in (i := 539) rfl rfl
set_option maxRecDepth 20000 in
theorem w_540 : Cond.methodLink "FeltedWashLaw" (76 : Nat) yX11_washes ∈ gtbl := gt_in (i := 540) rfl rfl
set_option maxRecDepth 20000 in
theorem w_541 : Cond.instanceMethod yX11_washes ∈ gtbl := gt_in (i := 541) rfl rfl
set_option maxRecDepth 20000 in
theorem w_542 : Cond.selects "FeltedWash" yX11_washes yX11_washes ∈ gtbl := gt_in (i := 542) rfl rfl
set_option maxRecDepth 20000 in
theorem w_543 : Cond.code yX11_washes prog_1_method_17_code (6 : Nat) (Option.some FieldType.int) ∈ gtbl := gt_in (i := 543) rfl rfl
set_option maxRecDepth 20000 in
theorem w_544 : Cond.methodLink "FeltedWash" (201 : Nat) yX11_wouldSuit ∈ gtbl := gt_in (i := 544) rfl rfl
set_option maxRecDepth 20000 in
theorem w_546 : Cond.instanceMethod yX11_wouldSuit ∈ gtbl := gt_in (i := 546) rfl rfl
set_option maxRecDepth 20000 in
theorem w_547 : Cond.code yX11_wouldSuit prog_1_method_40_code (6 : Nat) (Option.some FieldType.boolean) ∈ gtbl := gt_in (i := 547) rfl rfl
set_option maxRecDepth 20000 in
theorem w_548 : Cond.methodLink "FeltedWash" (279 : Nat) yX2_suits ∈ gtbl := gt_in (i := 548) rfl rfl
set_option maxRecDepth 20000 in
theorem w_549 : Cond.constant "FeltedWash" (205 : Nat) (-1000000004 : Int32) ∈ gtbl := gt_in (i := 549) rfl rfl
set_option maxRecDepth 20000 in
theorem w_550 : Cond.methodLink "FeltedWashLaw" (80 : Nat) yX11_warmest ∈ gtbl := gt_in (i := 550) rfl rfl
set_option maxRecDepth 20000 in
theorem w_551 : Cond.instanceMethod yX11_warmest ∈ gtbl := gt_in (i := 551) rfl rfl
set_option maxRecDepth 20000 in
theorem w_552 : Cond.selects "FeltedWash" yX11_warmest yX11_warmest ∈ gtbl := gt_in (i := 552) rfl rfl
set_option maxRecDepth 20000 in
theorem w_553 : Cond.code yX11_warmest prog_1_method_18_code (6 : Nat) (Option.some FieldType.int) ∈ gtbl := gt_in (i := 553) rfl rfl
set_option maxRecDepth 20000 in
theorem w_554 : Cond.methodLink "FeltedWashLaw" (84 : Nat) yX11_pull ∈ gtbl := gt_in (i := 554) rfl rfl
set_option maxRecDepth 20000 in
theorem w_555 : Cond.instanceMethod yX11_pull ∈ gtbl := gt_in (i := 555) rfl rfl
set_option maxRecDepth 20000 in
theorem w_556 : Cond.selects "FeltedWash" yX11_pull yX11_pull ∈ gtbl := gt_in (i := 556) rfl rfl
set_option maxRecDepth 20000 in
theorem w_557 : Cond.code yX11_pull prog_1_method_19_code (6 : Nat) (Option.some FieldType.int) ∈ gtbl := gt_in (i := 557) rfl rfl
set_option maxRecDepth 20000 in
theorem w_558 : Cond.methodLink "FeltedWashLaw" (88 : Nat) yX11_kind ∈ gtbl := gt_in (i := 558) rfl rfl
set_option maxRecDepth 20000 in
theorem w_559 : Cond.instanceMethod yX11_kind ∈ gtbl := gt_in (i := 559) rfl rfl
set_option maxRecDepth 20000 in
theorem w_560 : Cond.selects "FeltedWash" yX11_kind yX11_kind ∈ gtbl := gt_in (i := 560) rfl rfl
set_option maxRecDepth 20000 in
theorem w_561 : Cond.code yX11_kind prog_1_method_20_code (7 : Nat) (Option.some FieldType.int) ∈ gtbl := gt_in (i := 561) rfl rfl
set_option maxRecDepth 20000 in
theorem w_562 : Cond.methodLink "FeltedWash" (206 : Nat) yX11_tryAs ∈ gtbl := gt_in (i := 562) rfl rfl
set_option maxRecDepth 20000 in
theorem w_564 : Cond.instanceMethod yX11_tryAs ∈ gtbl := gt_in (i := 564) rfl rfl
set_option maxRecDepth 20000 in
theorem w_565 : Cond.code yX11_tryAs prog_1_method_41_code (4 : Nat) (Option.some FieldType.boolean) ∈ gtbl := gt_in (i := 565) rfl rfl
set_option maxRecDepth 20000 in
theorem w_566 : Cond.methodLink "FeltedWashLaw" (92 : Nat) yX11_dressed ∈ gtbl := gt_in (i := 566) rfl rfl
set_option maxRecDepth 20000 in
theorem w_567 : Cond.instanceMethod yX11_dressed ∈ gtbl := gt_in (i := 567) rfl rfl
set_option maxRecDepth 20000 in
theorem w_568 : Cond.selects "FeltedWash" yX11_dressed yX11_dressed ∈ gtbl := gt_in (i := 568) rfl rfl
set_option maxRecDepth 20000 in
theorem w_569 : Cond.code yX11_dressed prog_1_method_21_code (2 : Nat) (Option.some FieldType.int) ∈ gtbl := gt_in (i := 569) rfl rfl
set_option maxRecDepth 20000 in
theorem w_570 : Cond.methodLink "FeltedWash" (214 : Nat) yX0_become ∈ gtbl := gt_in (i := 570) rfl rfl
set_option maxRecDepth 20000 in
theorem w_571 : Cond.instanceMethod yX0_become ∈ gtbl := gt_in (i := 571) rfl rfl
set_option maxRecDepth 20000 in
theorem w_572 : Cond.selects "FeltedWash$Basket" yX0_become yX0_become ∈ gtbl := gt_in (i := 572) rfl rfl
set_option maxRecDepth 20000 in
theorem w_573 : Cond.code yX0_become prog_2_method_2_code (3 : Nat) (Option.none : Option FieldType) ∈ gtbl := gt_in (i := 573) rfl rfl
set_option maxRecDepth 20000 in
theorem w_574 : Cond.methodLink "FeltedWash$Basket" (47 : Nat) yX2_become ∈ gtbl := gt_in (i := 574) rfl rfl
set_option maxRecDepth 20000 in
theorem w_575 : Cond.methodLink "FeltedWash" (217 : Nat) yX0_bestDressed ∈ gtbl := gt_in (i := 575) rfl rfl
set_option maxRecDepth 20000 in
theorem w_576 : Cond.instanceMethod yX0_bestDressed ∈ gtbl := gt_in (i := 576) rfl rfl
set_option maxRecDepth 20000 in
theorem w_577 : Cond.selects "FeltedWash$Basket" yX0_bestDressed yX0_bestDressed ∈ gtbl := gt_in (i := 577) rfl rfl
set_option maxRecDepth 20000 in
theorem w_578 : Cond.code yX0_bestDressed prog_2_method_13_code (5 : Nat) (Option.some FieldType.int) ∈ gtbl := gt_in (i := 578) rfl rfl
set_option maxRecDepth 20000 in
theorem w_579 : Cond.methodLink "FeltedWash$Basket" (82 : Nat) yJ6_bitCount_0f7a4 ∈ gtbl := gt_in (i := 579) rfl rfl
set_option maxRecDepth 20000 in
theorem w_580 : Cond.static yJ6_bitCount_0f7a4 ∈ gtbl := gt_in (i := 580) rfl rfl
set_option maxRecDepth 20000 in
theorem w_581 : Cond.code yJ6_bitCount_0f7a4 prog_15_method_49_code (1 : Nat) (Option.some FieldType.int) ∈ gtbl := gt_in (i := 581) rfl rfl
set_option maxRecDepth 20000 in
theorem w_582 : Cond.constant "java/lang/Integer" (265 : Nat) (1431655765 : Int32) ∈ gtbl := gt_in (i := 582) rfl rfl
set_option maxRecDepth 20000 in
theorem w_583 : Cond.constant "java/lang/Integer" (266 : Nat) (858993459 : Int32) ∈ gtbl := gt_in (i := 583) rfl rfl
set_option maxRecDepth 20000 in
theorem w_584 : Cond.constant "java/lang/Integer" (267 : Nat) (252645135 : Int32) ∈ gtbl := gt_in (i := 584) rfl rfl
set_option maxRecDepth 20000 in
theorem w_585 : Cond.methodLink "FeltedWashLaw" (96 : Nat) yX11_shortest ∈ gtbl := gt_in (i := 585) rfl rfl
set_option maxRecDepth 20000 in
theorem w_586 : Cond.instanceMethod yX11_shortest ∈ gtbl := gt_in (i := 586) rfl rfl
set_option maxRecDepth 20000 in
theorem w_587 : Cond.selects "FeltedWash" yX11_shortest yX11_shortest ∈ gtbl := gt_in (i := 587) rfl rfl
set_option maxRecDepth 20000 in
theorem w_588 : Cond.code yX11_shortest prog_1_method_22_code (6 : Nat) (Option.some FieldType.int) ∈ gtbl := gt_in (i := 588) rfl rfl
set_option maxRecDepth 20000 in
theorem w_589 : Cond.methodLink "FeltedWashLaw" (100 : Nat) yX11_feed ∈ gtbl := gt_in (i := 589) rfl rfl
set_option maxRecDepth 20000 in
theorem w_590 : Cond.instanceMethod yX11_feed ∈ gtbl := gt_in (i := 590) rfl rfl
set_option maxRecDepth 20000 in
theorem w_591 : Cond.selects "FeltedWash" yX11_feed yX11_feed ∈ gtbl := gt_in (i := 591) rfl rfl
set_option maxRecDepth 20000 in
theorem w_592 : Cond.code yX11_feed prog_1_method_23_code (4 : Nat) (Option.some FieldType.int) ∈ gtbl := gt_in (i := 592) rfl rfl
set_option maxRecDepth 20000 in
theorem w_593 : Cond.methodLink "FeltedWash" (223 : Nat) yX9_append ∈ gtbl := gt_in (i := 593) rfl rfl
set_option maxRecDepth 20000 in
theorem w_594 : Cond.instanceMethod yX9_append ∈ gtbl := gt_in (i := 594) rfl rfl
set_option maxRecDepth 20000 in
theorem w_595 : Cond.selects "FeltedWash$Tape" yX9_append yX9_append ∈ gtbl := gt_in (i := 595) rfl rfl
set_option maxRecDepth 20000 in
theorem w_596 : Cond.code yX9_append prog_11_method_2_code (2 : Nat) (Option.none : Option FieldType) ∈ gtbl := gt_in (i := 596) rfl rfl
set_option maxRecDepth 20000 in
theorem w_597 : Cond.methodLink "FeltedWashLaw" (104 : Nat) yX11_wipe ∈ gtbl := gt_in (i := 597) rfl rfl
set_option maxRecDepth 20000 in
theorem w_598 : Cond.instanceMethod yX11_wipe ∈ gtbl := gt_in (i := 598) rfl rfl
set_option maxRecDepth 20000 in
theorem w_599 : Cond.selects "FeltedWash" yX11_wipe yX11_wipe ∈ gtbl := gt_in (i := 599) rfl rfl
set_option maxRecDepth 20000 in
theorem w_600 : Cond.code yX11_wipe prog_1_method_24_code (1 : Nat) (Option.some FieldType.int) ∈ gtbl := gt_in (i := 600) rfl rfl
set_option maxRecDepth 20000 in
theorem w_601 : Cond.methodLink "FeltedWash" (227 : Nat) yX9_clear ∈ gtbl := gt_in (i := 601) rfl rfl
set_option maxRecDepth 20000 in
theorem w_602 : Cond.instanceMethod yX9_clear ∈ gtbl := gt_in (i := 602) rfl rfl
set_option maxRecDepth 20000 in
theorem w_603 : Cond.selects "FeltedWash$Tape" yX9_clear yX9_clear ∈ gtbl := gt_in (i := 603) rfl rfl
set_option maxRecDepth 20000 in
theorem w_604 : Cond.code yX9_clear prog_11_method_3_code (2 : Nat) (Option.some FieldType.int) ∈ gtbl := gt_in (i := 604) rfl rfl
set_option maxRecDepth 20000 in
theorem w_605 : Cond.methodLink "FeltedWashLaw" (109 : Nat) yX11_basket ∈ gtbl := gt_in (i := 605) rfl rfl
set_option maxRecDepth 20000 in
theorem w_606 : Cond.instanceMethod yX11_basket ∈ gtbl := gt_in (i := 606) rfl rfl
set_option maxRecDepth 20000 in
theorem w_607 : Cond.selects "FeltedWash" yX11_basket yX11_basket ∈ gtbl := gt_in (i := 607) rfl rfl
set_option maxRecDepth 20000 in
theorem w_608 : Cond.code yX11_basket prog_1_method_25_code (2 : Nat) (Option.some FieldType.int) ∈ gtbl := gt_in (i := 608) rfl rfl
set_option maxRecDepth 20000 in
theorem w_609 : Cond.methodLink "FeltedWash" (230 : Nat) yX9_tellInto ∈ gtbl := gt_in (i := 609) rfl rfl
set_option maxRecDepth 20000 in
theorem w_610 : Cond.instanceMethod yX9_tellInto ∈ gtbl := gt_in (i := 610) rfl rfl
set_option maxRecDepth 20000 in
theorem w_611 : Cond.selects "FeltedWash$Tape" yX9_tellInto yX9_tellInto ∈ gtbl := gt_in (i := 611) rfl rfl
set_option maxRecDepth 20000 in
theorem w_612 : Cond.code yX9_tellInto prog_11_method_4_code (3 : Nat) (Option.some FieldType.int) ∈ gtbl := gt_in (i := 612) rfl rfl
set_option maxRecDepth 20000 in
theorem w_613 : Cond.methodLink "FeltedWash$Tape" (22 : Nat) yX9_nextToken ∈ gtbl := gt_in (i := 613) rfl rfl
set_option maxRecDepth 20000 in
theorem w_615 : Cond.instanceMethod yX9_nextToken ∈ gtbl := gt_in (i := 615) rfl rfl
set_option maxRecDepth 20000 in
theorem w_616 : Cond.code yX9_nextToken prog_11_method_15_code (1 : Nat) (Option.none : Option FieldType) ∈ gtbl := gt_in (i := 616) rfl rfl
set_option maxRecDepth 20000 in
theorem w_617 : Cond.methodLink "FeltedWash$Tape" (144 : Nat) yX9_byteAt ∈ gtbl := gt_in (i := 617) rfl rfl
set_option maxRecDepth 20000 in
theorem w_619 : Cond.instanceMethod yX9_byteAt ∈ gtbl := gt_in (i := 619) rfl rfl
set_option maxRecDepth 20000 in
theorem w_620 : Cond.code yX9_byteAt prog_11_method_16_code (2 : Nat) (Option.some FieldType.int) ∈ gtbl := gt_in (i := 620) rfl rfl
set_option maxRecDepth 20000 in
theorem w_621 : Cond.methodLink "FeltedWash$Tape" (152 : Nat) yX9_isLetter ∈ gtbl := gt_in (i := 621) rfl rfl
set_option maxRecDepth 20000 in
theorem w_622 : Cond.static yX9_isLetter ∈ gtbl := gt_in (i := 622) rfl rfl
set_option maxRecDepth 20000 in
theorem w_623 : Cond.code yX9_isLetter prog_11_method_17_code (1 : Nat) (Option.some FieldType.boolean) ∈ gtbl := gt_in (i := 623) rfl rfl
set_option maxRecDepth 20000 in
theorem w_624 : Cond.methodLink "FeltedWash$Tape" (156 : Nat) yX9_isDigit ∈ gtbl := gt_in (i := 624) rfl rfl
set_option maxRecDepth 20000 in
theorem w_625 : Cond.static yX9_isDigit ∈ gtbl := gt_in (i := 625) rfl rfl
set_option maxRecDepth 20000 in
theorem w_626 : Cond.code yX9_isDigit prog_11_method_18_code (1 : Nat) (Option.some FieldType.boolean) ∈ gtbl := gt_in (i := 626) rfl rfl
set_option maxRecDepth 20000 in
theorem w_627 : Cond.methodLink "FeltedWash$Tape" (159 : Nat) yJ9_min_7cf53 ∈ gtbl := gt_in (i := 627) rfl rfl
set_option maxRecDepth 20000 in
theorem w_628 : Cond.methodLink "FeltedWash$Tape" (25 : Nat) yX9_takeItem ∈ gtbl := gt_in (i := 628) rfl rfl
set_option maxRecDepth 20000 in
theorem w_630 : Cond.instanceMethod yX9_takeItem ∈ gtbl := gt_in (i := 630) rfl rfl
set_option maxRecDepth 20000 in
theorem w_631 : Cond.code yX9_takeItem prog_11_method_5_code (4 : Nat) (Option.some FieldType.boolean) ∈ gtbl := gt_in (i := 631) rfl rfl
set_option maxRecDepth 20000 in
theorem w_632 : Cond.methodLink "FeltedWash$Tape" (35 : Nat) yX9_kindNamed ∈ gtbl := gt_in (i := 632) rfl rfl
set_option maxRecDepth 20000 in
theorem w_634 : Cond.instanceMethod yX9_kindNamed ∈ gtbl := gt_in (i := 634) rfl rfl
set_option maxRecDepth 20000 in
theorem w_635 : Cond.code yX9_kindNamed prog_11_method_6_code (1 : Nat) (Option.some FieldType.int) ∈ gtbl := gt_in (i := 635) rfl rfl
set_option maxRecDepth 20000 in
theorem w_637 : Cond.methodLink "FeltedWash$Tape" (54 : Nat) yX9_isWord ∈ gtbl := gt_in (i := 637) rfl rfl
set_option maxRecDepth 20000 in
theorem w_639 : Cond.instanceMethod yX9_isWord ∈ gtbl := gt_in (i := 639) rfl rfl
set_option maxRecDepth 20000 in
theorem w_640 : Cond.code yX9_isWord prog_11_method_14_code (3 : Nat) (Option.some FieldType.boolean) ∈ gtbl := gt_in (i := 640) rfl rfl
set_option maxRecDepth 20000 in
theorem w_641 : Cond.methodLink "FeltedWash$Tape" (140 : Nat) yJ0_length_8abf5 ∈ gtbl := gt_in (i := 641) rfl rfl
set_option maxRecDepth 20000 in
theorem w_642 : Cond.instanceMethod yJ0_length_8abf5 ∈ gtbl := gt_in (i := 642) rfl rfl
set_option maxRecDepth 20000 in
theorem w_643 : Cond.selects "java/lang/String" yJ0_length_8abf5 yJ0_length_8abf5 ∈ gtbl := gt_in (i := 643) rfl rfl
set_option maxRecDepth 20000 in
theorem w_644 : Cond.code yJ0_length_8abf5 prog_17_method_54_code (1 : Nat) (Option.some FieldType.int) ∈ gtbl := gt_in (i := 644) rfl rfl
set_option maxRecDepth 20000 in
theorem w_645 : Cond.methodLink "java/lang/String" (335 : Nat) yJ0_coder_7d493 ∈ gtbl := gt_in (i := 645) rfl rfl
set_option maxRecDepth 20000 in
theorem w_646 : Cond.instanceMethod yJ0_coder_7d493 ∈ gtbl := gt_in (i := 646) rfl rfl
set_option maxRecDepth 20000 in
theorem w_647 : Cond.selects "java/lang/String" yJ0_coder_7d493 yJ0_coder_7d493 ∈ gtbl := gt_in (i := 647) rfl rfl
set_option maxRecDepth 20000 in
theorem w_648 : Cond.code yJ0_coder_7d493 prog_17_method_152_code (1 : Nat) (Option.some FieldType.byte) ∈ gtbl := gt_in (i := 648) rfl rfl
set_option maxRecDepth 20000 in
theorem w_651 : Cond.methodLink "FeltedWash$Tape" (148 : Nat) yJ0_charAt_5068e ∈ gtbl := gt_in (i := 651) rfl rfl
set_option maxRecDepth 20000 in
theorem w_652 : Cond.instanceMethod yJ0_charAt_5068e ∈ gtbl := gt_in (i := 652) rfl rfl
set_option maxRecDepth 20000 in
theorem w_653 : Cond.selects "java/lang/String" yJ0_charAt_5068e yJ0_charAt_5068e ∈ gtbl := gt_in (i := 653) rfl rfl
set_option maxRecDepth 20000 in
theorem w_654 : Cond.code yJ0_charAt_5068e prog_17_method_56_code (2 : Nat) (Option.some FieldType.char) ∈ gtbl := gt_in (i := 654) rfl rfl
set_option maxRecDepth 20000 in
theorem w_655 : Cond.methodLink "java/lang/String" (492 : Nat) yJ0_isLatin1_aae02 ∈ gtbl := gt_in (i := 655) rfl rfl
set_option maxRecDepth 20000 in
theorem w_656 : Cond.instanceMethod yJ0_isLatin1_aae02 ∈ gtbl := gt_in (i := 656) rfl rfl
set_option maxRecDepth 20000 in
theorem w_657 : Cond.selects "java/lang/String" yJ0_isLatin1_aae02 yJ0_isLatin1_aae02 ∈ gtbl := gt_in (i := 657) rfl rfl
set_option maxRecDepth 20000 in
theorem w_658 : Cond.code yJ0_isLatin1_aae02 prog_17_method_154_code (1 : Nat) (Option.some FieldType.boolean) ∈ gtbl := gt_in (i := 658) rfl rfl
set_option maxRecDepth 20000 in
theorem w_659 : Cond.methodLink "java/lang/String" (495 : Nat) yJ1_charAt_3b067 ∈ gtbl := gt_in (i := 659) rfl rfl
set_option maxRecDepth 20000 in
theorem w_660 : Cond.static yJ1_charAt_3b067 ∈ gtbl := gt_in (i := 660) rfl rfl
set_option maxRecDepth 20000 in
theorem w_661 : Cond.code yJ1_charAt_3b067 prog_18_method_2_code (2 : Nat) (Option.some FieldType.char) ∈ gtbl := gt_in (i := 661) rfl rfl
set_option maxRecDepth 20000 in
theorem w_662 : Cond.methodLink "java/lang/StringLatin1" (9 : Nat) yJ0_checkIndex_df160 ∈ gtbl := gt_in (i := 662) rfl rfl
set_option maxRecDepth 20000 in
theorem w_663 : Cond.static yJ0_checkIndex_df160 ∈ gtbl := gt_in (i := 663) rfl rfl
set_option maxRecDepth 20000 in
theorem w_664 : Cond.code yJ0_checkIndex_df160 prog_17_method_155_code (2 : Nat) (Option.none : Option FieldType) ∈ gtbl := gt_in (i := 664) rfl rfl
set_option maxRecDepth 20000 in
theorem w_667 : Cond.methodLink "java/lang/String" (1059 : Nat) yJ3_checkIndex_8e157 ∈ gtbl := gt_in (i := 667) rfl rfl
set_option maxRecDepth 20000 in
theorem w_668 : Cond.static yJ3_checkIndex_8e157 ∈ gtbl := gt_in (i := 668) rfl rfl
set_option maxRecDepth 20000 in
theorem w_669 : Cond.code yJ3_checkIndex_8e157 prog_21_method_11_code (3 : Nat) (Option.some FieldType.int) ∈ gtbl := gt_in (i := 669) rfl rfl
set_option maxRecDepth 20000 in
theorem w_670 : Cond.methodLink "java/lang/String" (498 : Nat) yJ2_charAt_3b067 ∈ gtbl := gt_in (i := 670) rfl rfl
set_option maxRecDepth 20000 in
theorem w_671 : Cond.static yJ2_charAt_3b067 ∈ gtbl := gt_in (i := 671) rfl rfl
set_option maxRecDepth 20000 in
theorem w_672 : Cond.code yJ2_charAt_3b067 prog_19_method_83_code (2 : Nat) (Option.some FieldType.char) ∈ gtbl := gt_in (i := 672) rfl rfl
set_option maxRecDepth 20000 in
theorem w_673 : Cond.methodLink "java/lang/StringUTF16" (67 : Nat) yJ2_checkIndex_2214a ∈ gtbl := gt_in (i := 673) rfl rfl
set_option maxRecDepth 20000 in
theorem w_674 : Cond.static yJ2_checkIndex_2214a ∈ gtbl := gt_in (i := 674) rfl rfl
set_option maxRecDepth 20000 in
theorem w_675 : Cond.code yJ2_checkIndex_2214a prog_19_method_91_code (2 : Nat) (Option.none : Option FieldType) ∈ gtbl := gt_in (i := 675) rfl rfl
set_option maxRecDepth 20000 in
theorem w_676 : Cond.methodLink "java/lang/StringUTF16" (48 : Nat) yJ2_length_9d52b ∈ gtbl := gt_in (i := 676) rfl rfl
set_option maxRecDepth 20000 in
theorem w_677 : Cond.static yJ2_length_9d52b ∈ gtbl := gt_in (i := 677) rfl rfl
set_option maxRecDepth 20000 in
theorem w_678 : Cond.code yJ2_length_9d52b prog_19_method_6_code (1 : Nat) (Option.some FieldType.int) ∈ gtbl := gt_in (i := 678) rfl rfl
set_option maxRecDepth 20000 in
theorem w_679 : Cond.methodLink "java/lang/StringUTF16" (414 : Nat) yJ0_checkIndex_df160 ∈ gtbl := gt_in (i := 679) rfl rfl
set_option maxRecDepth 20000 in
theorem w_680 : Cond.methodLink "java/lang/StringUTF16" (71 : Nat) yJ2_getChar_3b067 ∈ gtbl := gt_in (i := 680) rfl rfl
set_option maxRecDepth 20000 in
theorem w_681 : Cond.static yJ2_getChar_3b067 ∈ gtbl := gt_in (i := 681) rfl rfl
set_option maxRecDepth 20000 in
theorem w_682 : Cond.code yJ2_getChar_3b067 prog_19_method_5_code (2 : Nat) (Option.some FieldType.char) ∈ gtbl := gt_in (i := 682) rfl rfl
set_option maxRecDepth 20000 in
theorem w_694 : Cond.methodLink "FeltedWash$Tape" (39 : Nat) yX0_addGarment ∈ gtbl := gt_in (i := 694) rfl rfl
set_option maxRecDepth 20000 in
theorem w_695 : Cond.methodLink "FeltedWash$Tape" (45 : Nat) yX9_takeSpans ∈ gtbl := gt_in (i := 695) rfl rfl
set_option maxRecDepth 20000 in
theorem w_697 : Cond.instanceMethod yX9_takeSpans ∈ gtbl := gt_in (i := 697) rfl rfl
set_option maxRecDepth 20000 in
theorem w_698 : Cond.code yX9_takeSpans prog_11_method_7_code (2 : Nat) (Option.some FieldType.boolean) ∈ gtbl := gt_in (i := 698) rfl rfl
set_option maxRecDepth 20000 in
theorem w_700 : Cond.methodLink "FeltedWash$Tape" (91 : Nat) yX9_takeTwoSpans ∈ gtbl := gt_in (i := 700) rfl rfl
set_option maxRecDepth 20000 in
theorem w_702 : Cond.instanceMethod yX9_takeTwoSpans ∈ gtbl := gt_in (i := 702) rfl rfl
set_option maxRecDepth 20000 in
theorem w_703 : Cond.code yX9_takeTwoSpans prog_11_method_10_code (1 : Nat) (Option.some FieldType.boolean) ∈ gtbl := gt_in (i := 703) rfl rfl
set_option maxRecDepth 20000 in
theorem w_704 : Cond.methodLink "FeltedWash$Tape" (111 : Nat) yX9_isNumber ∈ gtbl := gt_in (i := 704) rfl rfl
set_option maxRecDepth 20000 in
theorem w_706 : Cond.instanceMethod yX9_isNumber ∈ gtbl := gt_in (i := 706) rfl rfl
set_option maxRecDepth 20000 in
theorem w_707 : Cond.code yX9_isNumber prog_11_method_13_code (3 : Nat) (Option.some FieldType.boolean) ∈ gtbl := gt_in (i := 707) rfl rfl
set_option maxRecDepth 20000 in
theorem w_709 : Cond.methodLink "FeltedWash$Tape" (49 : Nat) yX9_takeThickness ∈ gtbl := gt_in (i := 709) rfl rfl
set_option maxRecDepth 20000 in
theorem w_711 : Cond.instanceMethod yX9_takeThickness ∈ gtbl := gt_in (i := 711) rfl rfl
set_option maxRecDepth 20000 in
theorem w_712 : Cond.code yX9_takeThickness prog_11_method_8_code (2 : Nat) (Option.some FieldType.boolean) ∈ gtbl := gt_in (i := 712) rfl rfl
set_option maxRecDepth 20000 in
theorem w_715 : Cond.methodLink "FeltedWash$Tape" (58 : Nat) yX9_takePerson ∈ gtbl := gt_in (i := 715) rfl rfl
set_option maxRecDepth 20000 in
theorem w_717 : Cond.instanceMethod yX9_takePerson ∈ gtbl := gt_in (i := 717) rfl rfl
set_option maxRecDepth 20000 in
theorem w_718 : Cond.code yX9_takePerson prog_11_method_9_code (2 : Nat) (Option.some FieldType.boolean) ∈ gtbl := gt_in (i := 718) rfl rfl
set_option maxRecDepth 20000 in
theorem w_719 : Cond.methodLink "FeltedWash$Tape" (123 : Nat) yX0_addPerson ∈ gtbl := gt_in (i := 719) rfl rfl
set_option maxRecDepth 20000 in
theorem w_721 : Cond.methodLink "FeltedWash$Tape" (63 : Nat) yX9_takeDegrees ∈ gtbl := gt_in (i := 721) rfl rfl
set_option maxRecDepth 20000 in
theorem w_723 : Cond.instanceMethod yX9_takeDegrees ∈ gtbl := gt_in (i := 723) rfl rfl
set_option maxRecDepth 20000 in
theorem w_724 : Cond.code yX9_takeDegrees prog_11_method_11_code (2 : Nat) (Option.some FieldType.boolean) ∈ gtbl := gt_in (i := 724) rfl rfl
set_option maxRecDepth 20000 in
theorem w_726 : Cond.methodLink "FeltedWash$Tape" (68 : Nat) yX9_takeWash ∈ gtbl := gt_in (i := 726) rfl rfl
set_option maxRecDepth 20000 in
theorem w_728 : Cond.instanceMethod yX9_takeWash ∈ gtbl := gt_in (i := 728) rfl rfl
set_option maxRecDepth 20000 in
theorem w_729 : Cond.code yX9_takeWash prog_11_method_12_code (3 : Nat) (Option.some FieldType.boolean) ∈ gtbl := gt_in (i := 729) rfl rfl
set_option maxRecDepth 20000 in
theorem w_730 : Cond.methodLink "FeltedWash$Tape" (129 : Nat) yX0_garmentAt ∈ gtbl := gt_in (i := 730) rfl rfl
set_option maxRecDepth 20000 in
theorem w_731 : Cond.methodLink "FeltedWash$Tape" (132 : Nat) yX2_goThroughWash ∈ gtbl := gt_in (i := 731) rfl rfl
set_option maxRecDepth 20000 in
theorem w_734 : Cond.methodLink "FeltedWashLaw" (113 : Nat) yX11_sheet ∈ gtbl := gt_in (i := 734) rfl rfl
set_option maxRecDepth 20000 in
theorem w_735 : Cond.instanceMethod yX11_sheet ∈ gtbl := gt_in (i := 735) rfl rfl
set_option maxRecDepth 20000 in
theorem w_736 : Cond.selects "FeltedWash" yX11_sheet yX11_sheet ∈ gtbl := gt_in (i := 736) rfl rfl
set_option maxRecDepth 20000 in
theorem w_737 : Cond.code yX11_sheet prog_1_method_26_code (5 : Nat) (Option.some FieldType.int) ∈ gtbl := gt_in (i := 737) rfl rfl
set_option maxRecDepth 20000 in
theorem w_738 : Cond.methodLink "FeltedWash" (234 : Nat) yX11_sheetAt ∈ gtbl := gt_in (i := 738) rfl rfl
set_option maxRecDepth 20000 in
theorem w_740 : Cond.instanceMethod yX11_sheetAt ∈ gtbl := gt_in (i := 740) rfl rfl
set_option maxRecDepth 20000 in
theorem w_741 : Cond.code yX11_sheetAt prog_1_method_38_code (2 : Nat) (Option.some (FieldType.object "FeltedWash$Sheet")) ∈ gtbl := gt_in (i := 741) rfl rfl
set_option maxRecDepth 20000 in
theorem w_742 : Cond.constant "FeltedWash" (238 : Nat) (-1000000007 : Int32) ∈ gtbl := gt_in (i := 742) rfl rfl
set_option maxRecDepth 20000 in
theorem w_743 : Cond.methodLink "FeltedWash" (239 : Nat) yX6_beginAnew ∈ gtbl := gt_in (i := 743) rfl rfl
set_option maxRecDepth 20000 in
theorem w_744 : Cond.instanceMethod yX6_beginAnew ∈ gtbl := gt_in (i := 744) rfl rfl
set_option maxRecDepth 20000 in
theorem w_745 : Cond.selects "FeltedWash$Sheet" yX6_beginAnew yX6_beginAnew ∈ gtbl := gt_in (i := 745) rfl rfl
set_option maxRecDepth 20000 in
theorem w_746 : Cond.code yX6_beginAnew prog_8_method_2_code (4 : Nat) (Option.none : Option FieldType) ∈ gtbl := gt_in (i := 746) rfl rfl
set_option maxRecDepth 20000 in
theorem w_747 : Cond.methodLink "FeltedWashLaw" (119 : Nat) yX11_write ∈ gtbl := gt_in (i := 747) rfl rfl
set_option maxRecDepth 20000 in
theorem w_748 : Cond.instanceMethod yX11_write ∈ gtbl := gt_in (i := 748) rfl rfl
set_option maxRecDepth 20000 in
theorem w_749 : Cond.selects "FeltedWash" yX11_write yX11_write ∈ gtbl := gt_in (i := 749) rfl rfl
set_option maxRecDepth 20000 in
theorem w_750 : Cond.code yX11_write prog_1_method_27_code (8 : Nat) (Option.some FieldType.long) ∈ gtbl := gt_in (i := 750) rfl rfl
set_option maxRecDepth 20000 in
theorem w_751 : Cond.methodLink "FeltedWash" (243 : Nat) yX6_isMissing ∈ gtbl := gt_in (i := 751) rfl rfl
set_option maxRecDepth 20000 in
theorem w_752 : Cond.instanceMethod yX6_isMissing ∈ gtbl := gt_in (i := 752) rfl rfl
set_option maxRecDepth 20000 in
theorem w_753 : Cond.selects "FeltedWash$Sheet" yX6_isMissing yX6_isMissing ∈ gtbl := gt_in (i := 753) rfl rfl
set_option maxRecDepth 20000 in
theorem w_754 : Cond.code yX6_isMissing prog_8_method_3_code (1 : Nat) (Option.some FieldType.boolean) ∈ gtbl := gt_in (i := 754) rfl rfl
set_option maxRecDepth 20000 in
theorem w_755 : Cond.constant "FeltedWash" (247 : Nat) (-1000000006 : Int32) ∈ gtbl := gt_in (i := 755) rfl rfl
set_option maxRecDepth 20000 in
theorem w_756 : Cond.methodLink "FeltedWash" (252 : Nat) yX6_put ∈ gtbl := gt_in (i := 756) rfl rfl
set_option maxRecDepth 20000 in
theorem w_757 : Cond.instanceMethod yX6_put ∈ gtbl := gt_in (i := 757) rfl rfl
set_option maxRecDepth 20000 in
theorem w_758 : Cond.selects "FeltedWash$Sheet" yX6_put yX6_put ∈ gtbl := gt_in (i := 758) rfl rfl
set_option maxRecDepth 20000 in
theorem w_759 : Cond.code yX6_put prog_8_method_5_code (4 : Nat) (Option.none : Option FieldType) ∈ gtbl := gt_in (i := 759) rfl rfl
set_option maxRecDepth 20000 in
theorem w_760 : Cond.methodLink "FeltedWash$Sheet" (22 : Nat) yX6_lowestBits ∈ gtbl := gt_in (i := 760) rfl rfl
set_option maxRecDepth 20000 in
theorem w_762 : Cond.instanceMethod yX6_lowestBits ∈ gtbl := gt_in (i := 762) rfl rfl
set_option maxRecDepth 20000 in
theorem w_763 : Cond.code yX6_lowestBits prog_8_method_6_code (3 : Nat) (Option.some FieldType.long) ∈ gtbl := gt_in (i := 763) rfl rfl
set_option maxRecDepth 20000 in
theorem w_764 : Cond.methodLink "FeltedWashLaw" (124 : Nat) yX11_copy ∈ gtbl := gt_in (i := 764) rfl rfl
set_option maxRecDepth 20000 in
theorem w_765 : Cond.instanceMethod yX11_copy ∈ gtbl := gt_in (i := 765) rfl rfl
set_option maxRecDepth 20000 in
theorem w_766 : Cond.selects "FeltedWash" yX11_copy yX11_copy ∈ gtbl := gt_in (i := 766) rfl rfl
set_option maxRecDepth 20000 in
theorem w_767 : Cond.code yX11_copy prog_1_method_28_code (8 : Nat) (Option.some FieldType.int) ∈ gtbl := gt_in (i := 767) rfl rfl
set_option maxRecDepth 20000 in
theorem w_768 : Cond.methodLink "FeltedWash" (259 : Nat) yX6_hasRun ∈ gtbl := gt_in (i := 768) rfl rfl
set_option maxRecDepth 20000 in
theorem w_769 : Cond.instanceMethod yX6_hasRun ∈ gtbl := gt_in (i := 769) rfl rfl
set_option maxRecDepth 20000 in
theorem w_770 : Cond.selects "FeltedWash$Sheet" yX6_hasRun yX6_hasRun ∈ gtbl := gt_in (i := 770) rfl rfl
set_option maxRecDepth 20000 in
theorem w_771 : Cond.code yX6_hasRun prog_8_method_4_code (3 : Nat) (Option.some FieldType.boolean) ∈ gtbl := gt_in (i := 771) rfl rfl
set_option maxRecDepth 20000 in
theorem w_772 : Cond.methodLink "FeltedWash" (262 : Nat) ⟨"java/lang/System", "arraycopy", "(Ljava/lang/Object;ILjava/lang/Object;II)V"⟩ ∈ gtbl := gt_in (i := 772) rfl rfl
set_option maxRecDepth 20000 in
theorem w_773 : Cond.static ⟨"java/lang/System", "arraycopy", "(Ljava/lang/Object;ILjava/lang/Object;II)V"⟩ ∈ gtbl := gt_in (i := 773) rfl rfl
set_option maxRecDepth 20000 in
theorem w_774 : Cond.native ⟨"java/lang/System", "arraycopy", "(Ljava/lang/Object;ILjava/lang/Object;II)V"⟩ ∈ gtbl := gt_in (i := 774) rfl rfl
set_option maxRecDepth 20000 in
theorem w_775 : Cond.methodLink "FeltedWashLaw" (129 : Nat) yX11_lays ∈ gtbl := gt_in (i := 775) rfl rfl
set_option maxRecDepth 20000 in
theorem w_776 : Cond.instanceMethod yX11_lays ∈ gtbl := gt_in (i := 776) rfl rfl
set_option maxRecDepth 20000 in
theorem w_777 : Cond.selects "FeltedWash" yX11_lays yX11_lays ∈ gtbl := gt_in (i := 777) rfl rfl
set_option maxRecDepth 20000 in
theorem w_778 : Cond.code yX11_lays prog_1_method_29_code (8 : Nat) (Option.some FieldType.int) ∈ gtbl := gt_in (i := 778) rfl rfl
set_option maxRecDepth 20000 in
theorem w_779 : Cond.constantLong "FeltedWash" (268 : Nat) (10 : Int64) ∈ gtbl := gt_in (i := 779) rfl rfl
set_option maxRecDepth 20000 in
theorem w_780 : Cond.constantLong "FeltedWash" (270 : Nat) (200 : Int64) ∈ gtbl := gt_in (i := 780) rfl rfl
set_option maxRecDepth 20000 in
theorem w_781 : Cond.methodLink "FeltedWashLaw" (133 : Nat) yX11_book ∈ gtbl := gt_in (i := 781) rfl rfl
set_option maxRecDepth 20000 in
theorem w_782 : Cond.instanceMethod yX11_book ∈ gtbl := gt_in (i := 782) rfl rfl
set_option maxRecDepth 20000 in
theorem w_783 : Cond.selects "FeltedWash" yX11_book yX11_book ∈ gtbl := gt_in (i := 783) rfl rfl
set_option maxRecDepth 20000 in
theorem w_784 : Cond.code yX11_book prog_1_method_30_code (6 : Nat) (Option.some FieldType.int) ∈ gtbl := gt_in (i := 784) rfl rfl
set_option maxRecDepth 20000 in
theorem w_785 : Cond.methodLink "FeltedWashLaw" (137 : Nat) yX11_read ∈ gtbl := gt_in (i := 785) rfl rfl
set_option maxRecDepth 20000 in
theorem w_786 : Cond.instanceMethod yX11_read ∈ gtbl := gt_in (i := 786) rfl rfl
set_option maxRecDepth 20000 in
theorem w_787 : Cond.selects "FeltedWash" yX11_read yX11_read ∈ gtbl := gt_in (i := 787) rfl rfl
set_option maxRecDepth 20000 in
theorem w_788 : Cond.code yX11_read prog_1_method_31_code (8 : Nat) (Option.some FieldType.int) ∈ gtbl := gt_in (i := 788) rfl rfl
set_option maxRecDepth 20000 in
theorem w_789 : Cond.methodLink "FeltedWash" (272 : Nat) yX11_explains ∈ gtbl := gt_in (i := 789) rfl rfl
set_option maxRecDepth 20000 in
theorem w_791 : Cond.instanceMethod yX11_explains ∈ gtbl := gt_in (i := 791) rfl rfl
set_option maxRecDepth 20000 in
theorem w_792 : Cond.code yX11_explains prog_1_method_42_code (6 : Nat) (Option.some FieldType.boolean) ∈ gtbl := gt_in (i := 792) rfl rfl
set_option maxRecDepth 20000 in
theorem w_793 : Cond.methodLink "FeltedWashLaw" (141 : Nat) yX11_image ∈ gtbl := gt_in (i := 793) rfl rfl
set_option maxRecDepth 20000 in
theorem w_794 : Cond.instanceMethod yX11_image ∈ gtbl := gt_in (i := 794) rfl rfl
set_option maxRecDepth 20000 in
theorem w_795 : Cond.selects "FeltedWash" yX11_image yX11_image ∈ gtbl := gt_in (i := 795) rfl rfl
set_option maxRecDepth 20000 in
theorem w_796 : Cond.code yX11_image prog_1_method_32_code (1 : Nat) (Option.some FieldType.int) ∈ gtbl := gt_in (i := 796) rfl rfl
set_option maxRecDepth 20000 in
theorem w_797 : Cond.methodLink "FeltedWashLaw" (145 : Nat) yX11_undo ∈ gtbl := gt_in (i := 797) rfl rfl
set_option maxRecDepth 20000 in
theorem w_798 : Cond.instanceMethod yX11_undo ∈ gtbl := gt_in (i := 798) rfl rfl
set_option maxRecDepth 20000 in
theorem w_799 : Cond.selects "FeltedWash" yX11_undo yX11_undo ∈ gtbl := gt_in (i := 799) rfl rfl
set_option maxRecDepth 20000 in
theorem w_800 : Cond.code yX11_undo prog_1_method_33_code (1 : Nat) (Option.some FieldType.int) ∈ gtbl := gt_in (i := 800) rfl rfl
set_option maxRecDepth 20000 in
theorem w_801 : Cond.methodLink "FeltedWashLaw" (149 : Nat) yX11_tear ∈ gtbl := gt_in (i := 801) rfl rfl
set_option maxRecDepth 20000 in
theorem w_802 : Cond.instanceMethod yX11_tear ∈ gtbl := gt_in (i := 802) rfl rfl
set_option maxRecDepth 20000 in
theorem w_803 : Cond.selects "FeltedWash" yX11_tear yX11_tear ∈ gtbl := gt_in (i := 803) rfl rfl
set_option maxRecDepth 20000 in
theorem w_804 : Cond.code yX11_tear prog_1_method_34_code (2 : Nat) (Option.some FieldType.int) ∈ gtbl := gt_in (i := 804) rfl rfl
set_option maxRecDepth 20000 in
theorem w_805 : Cond.methodLink "FeltedWashLaw" (153 : Nat) yX11_count ∈ gtbl := gt_in (i := 805) rfl rfl
set_option maxRecDepth 20000 in
theorem w_806 : Cond.instanceMethod yX11_count ∈ gtbl := gt_in (i := 806) rfl rfl
set_option maxRecDepth 20000 in
theorem w_807 : Cond.selects "FeltedWash" yX11_count yX11_count ∈ gtbl := gt_in (i := 807) rfl rfl
set_option maxRecDepth 20000 in
theorem w_808 : Cond.code yX11_count prog_1_method_35_code (2 : Nat) (Option.some FieldType.int) ∈ gtbl := gt_in (i := 808) rfl rfl
set_option maxRecDepth 20000 in
theorem w_809 : Cond.methodLink "FeltedWash" (276 : Nat) yX0_allHoles ∈ gtbl := gt_in (i := 809) rfl rfl
set_option maxRecDepth 20000 in
theorem w_810 : Cond.instanceMethod yX0_allHoles ∈ gtbl := gt_in (i := 810) rfl rfl
set_option maxRecDepth 20000 in
theorem w_811 : Cond.selects "FeltedWash$Basket" yX0_allHoles yX0_allHoles ∈ gtbl := gt_in (i := 811) rfl rfl
set_option maxRecDepth 20000 in
theorem w_812 : Cond.code yX0_allHoles prog_2_method_14_code (3 : Nat) (Option.some FieldType.int) ∈ gtbl := gt_in (i := 812) rfl rfl
set_option maxRecDepth 20000 in
theorem w_813 : Cond.methodLink "FeltedWashLaw" (157 : Nat) yX11_status ∈ gtbl := gt_in (i := 813) rfl rfl
set_option maxRecDepth 20000 in
theorem w_814 : Cond.instanceMethod yX11_status ∈ gtbl := gt_in (i := 814) rfl rfl
set_option maxRecDepth 20000 in
theorem w_815 : Cond.selects "FeltedWash" yX11_status yX11_status ∈ gtbl := gt_in (i := 815) rfl rfl
set_option maxRecDepth 20000 in
theorem w_816 : Cond.code yX11_status prog_1_method_36_code (4 : Nat) (Option.some FieldType.int) ∈ gtbl := gt_in (i := 816) rfl rfl
set_option maxRecDepth 20000 in
theorem w_817 : Cond.classLink "FeltedWashLaw" (10 : Nat) "FeltedWashModel" ∈ gtbl := gt_in (i := 817) rfl rfl
set_option maxRecDepth 20000 in
theorem w_818 : Cond.instantiable "FeltedWashModel" (16 : Nat) ∈ gtbl := gt_in (i := 818) rfl rfl
set_option maxRecDepth 20000 in
theorem w_819 : Cond.methodLink "FeltedWashLaw" (12 : Nat) yX12_init ∈ gtbl := gt_in (i := 819) rfl rfl
set_option maxRecDepth 20000 in
theorem w_820 : Cond.instanceMethod yX12_init ∈ gtbl := gt_in (i := 820) rfl rfl
set_option maxRecDepth 20000 in
theorem w_821 : Cond.code yX12_init prog_14_method_1_code (1 : Nat) (Option.none : Option FieldType) ∈ gtbl := gt_in (i := 821) rfl rfl
set_option maxRecDepth 20000 in
theorem w_822 : Cond.methodLink "FeltedWashModel" (1 : Nat) ⟨"java/lang/Object", "<init>", "()V"⟩ ∈ gtbl := gt_in (i := 822) rfl rfl
set_option maxRecDepth 20000 in
theorem w_823 : Cond.fieldLink "FeltedWashModel" (7 : Nat) "FeltedWashModel" "s" "[I" ∈ gtbl := gt_in (i := 823) rfl rfl
set_option maxRecDepth 20000 in
theorem w_824 : Cond.fieldLink "FeltedWashModel" (13 : Nat) "FeltedWashModel" "keptS" "[I" ∈ gtbl := gt_in (i := 824) rfl rfl
set_option maxRecDepth 20000 in
theorem w_825 : Cond.fieldLink "FeltedWashModel" (16 : Nat) "FeltedWashModel" "other" "[I" ∈ gtbl := gt_in (i := 825) rfl rfl
set_option maxRecDepth 20000 in
theorem w_826 : Cond.fieldLink "FeltedWashModel" (19 : Nat) "FeltedWashModel" "aside" "[I" ∈ gtbl := gt_in (i := 826) rfl rfl
set_option maxRecDepth 20000 in
theorem w_827 : Cond.fieldLink "FeltedWashModel" (22 : Nat) "FeltedWashModel" "statuses" "[I" ∈ gtbl := gt_in (i := 827) rfl rfl
set_option maxRecDepth 20000 in
theorem w_828 : Cond.fieldLink "FeltedWashModel" (315 : Nat) "FeltedWashModel" "isKept" "Z" ∈ gtbl := gt_in (i := 828) rfl rfl
set_option maxRecDepth 20000 in
theorem w_829 : Cond.fieldLink "FeltedWashModel" (25 : Nat) "FeltedWashModel" "tape" "[I" ∈ gtbl := gt_in (i := 829) rfl rfl
set_option maxRecDepth 20000 in
theorem w_830 : Cond.fieldLink "FeltedWashModel" (193 : Nat) "FeltedWashModel" "taped" "I" ∈ gtbl := gt_in (i := 830) rfl rfl
set_option maxRecDepth 20000 in
theorem w_831 : Cond.fieldLink "FeltedWashModel" (208 : Nat) "FeltedWashModel" "from" "I" ∈ gtbl := gt_in (i := 831) rfl rfl
set_option maxRecDepth 20000 in
theorem w_832 : Cond.fieldLink "FeltedWashModel" (205 : Nat) "FeltedWashModel" "to" "I" ∈ gtbl := gt_in (i := 832) rfl rfl
set_option maxRecDepth 20000 in
theorem w_833 : Cond.fieldLink "FeltedWashModel" (231 : Nat) "FeltedWashModel" "value" "I" ∈ gtbl := gt_in (i := 833) rfl rfl
set_option maxRecDepth 20000 in
theorem w_834 : Cond.fieldLink "FeltedWashModel" (220 : Nat) "FeltedWashModel" "isWrong" "Z" ∈ gtbl := gt_in (i := 834) rfl rfl
set_option maxRecDepth 20000 in
theorem w_835 : Cond.fieldLink "FeltedWashModel" (28 : Nat) "FeltedWashModel" "bitsOf" "[I" ∈ gtbl := gt_in (i := 835) rfl rfl
set_option maxRecDepth 20000 in
theorem w_836 : Cond.fieldLink "FeltedWashModel" (31 : Nat) "FeltedWashModel" "sizeOf" "[I" ∈ gtbl := gt_in (i := 836) rfl rfl
set_option maxRecDepth 20000 in
theorem w_837 : Cond.fieldLink "FeltedWashModel" (34 : Nat) "FeltedWashModel" "numbers" "[J" ∈ gtbl := gt_in (i := 837) rfl rfl
set_option maxRecDepth 20000 in
theorem w_838 : Cond.fieldLink "FeltedWashModel" (38 : Nat) "FeltedWashModel" "moved" "[J" ∈ gtbl := gt_in (i := 838) rfl rfl
set_option maxRecDepth 20000 in
theorem w_839 : Cond.laysFinal "FeltedWashModel" "FeltedWashModel" "s" "[I" ∈ gtbl := gt_in (i := 839) rfl rfl
set_option maxRecDepth 20000 in
theorem w_841 : Cond.laysFinal "FeltedWashModel" "FeltedWashModel" "keptS" "[I" ∈ gtbl := gt_in (i := 841) rfl rfl
set_option maxRecDepth 20000 in
theorem w_843 : Cond.laysFinal "FeltedWashModel" "FeltedWashModel" "other" "[I" ∈ gtbl := gt_in (i := 843) rfl rfl
set_option maxRecDepth 20000 in
theorem w_845 : Cond.laysFinal "FeltedWashModel" "FeltedWashModel" "aside" "[I" ∈ gtbl := gt_in (i := 845) rfl rfl
set_option maxRecDepth 20000 in
theorem w_847 : Cond.laysFinal "FeltedWashModel" "FeltedWashModel" "statuses" "[I" ∈ gtbl := gt_in (i := 847) rfl rfl
set_option maxRecDepth 20000 in
theorem w_849 : Cond.lays "FeltedWashModel" "FeltedWashModel" "isKept" "Z" ∈ gtbl := gt_in (i := 849) rfl rfl
set_option maxRecDepth 20000 in
theorem w_851 : Cond.laysFinal "FeltedWashModel" "FeltedWashModel" "tape" "[I" ∈ gtbl := gt_in (i := 851) rfl rfl
set_option maxRecDepth 20000 in
theorem w_853 : Cond.lays "FeltedWashModel" "FeltedWashModel" "taped" "I" ∈ gtbl := gt_in (i := 853) rfl rfl
set_option maxRecDepth 20000 in
theorem w_855 : Cond.lays "FeltedWashModel" "FeltedWashModel" "from" "I" ∈ gtbl := gt_in (i := 855) rfl rfl
set_option maxRecDepth 20000 in
theorem w_857 : Cond.lays "FeltedWashModel" "FeltedWashModel" "to" "I" ∈ gtbl := gt_in (i := 857) rfl rfl
set_option maxRecDepth 20000 in
theorem w_859 : Cond.lays "FeltedWashModel" "FeltedWashModel" "value" "I" ∈ gtbl := gt_in (i := 859) rfl rfl
set_option maxRecDepth 20000 in
theorem w_861 : Cond.lays "FeltedWashModel" "FeltedWashModel" "isWrong" "Z" ∈ gtbl := gt_in (i := 861) rfl rfl
set_option maxRecDepth 20000 in
theorem w_863 : Cond.laysFinal "FeltedWashModel" "FeltedWashModel" "bitsOf" "[I" ∈ gtbl := gt_in (i := 863) rfl rfl
set_option maxRecDepth 20000 in
theorem w_865 : Cond.laysFinal "FeltedWashModel" "FeltedWashModel" "sizeOf" "[I" ∈ gtbl := gt_in (i := 865) rfl rfl
set_option maxRecDepth 20000 in
theorem w_867 : Cond.laysFinal "FeltedWashModel" "FeltedWashModel" "numbers" "[J" ∈ gtbl := gt_in (i := 867) rfl rfl
set_option maxRecDepth 20000 in
theorem w_869 : Cond.laysFinal "FeltedWashModel" "FeltedWashModel" "moved" "[J" ∈ gtbl := gt_in (i := 869) rfl rfl
set_option maxRecDepth 20000 in
theorem w_872 : Cond.methodLink "FeltedWashLaw" (17 : Nat) yX12_machine ∈ gtbl := gt_in (i := 872) rfl rfl
set_option maxRecDepth 20000 in
theorem w_873 : Cond.instanceMethod yX12_machine ∈ gtbl := gt_in (i := 873) rfl rfl
set_option maxRecDepth 20000 in
theorem w_874 : Cond.selects "FeltedWashModel" yX12_machine yX12_machine ∈ gtbl := gt_in (i := 874) rfl rfl
set_option maxRecDepth 20000 in
theorem w_875 : Cond.code yX12_machine prog_14_method_17_code (4 : Nat) (Option.some FieldType.int) ∈ gtbl := gt_in (i := 875) rfl rfl
set_option maxRecDepth 20000 in
theorem w_876 : Cond.constantLong "FeltedWashModel" (56 : Nat) (20 : Int64) ∈ gtbl := gt_in (i := 876) rfl rfl
set_option maxRecDepth 20000 in
theorem w_877 : Cond.constantLong "FeltedWashModel" (58 : Nat) (95 : Int64) ∈ gtbl := gt_in (i := 877) rfl rfl
set_option maxRecDepth 20000 in
theorem w_878 : Cond.methodLink "FeltedWashModel" (46 : Nat) yX12_in ∈ gtbl := gt_in (i := 878) rfl rfl
set_option maxRecDepth 20000 in
theorem w_879 : Cond.static yX12_in ∈ gtbl := gt_in (i := 879) rfl rfl
set_option maxRecDepth 20000 in
theorem w_880 : Cond.code yX12_in prog_14_method_2_code (6 : Nat) (Option.some FieldType.boolean) ∈ gtbl := gt_in (i := 880) rfl rfl
set_option maxRecDepth 20000 in
theorem w_881 : Cond.methodLink "FeltedWashModel" (60 : Nat) yX12_becomes ∈ gtbl := gt_in (i := 881) rfl rfl
set_option maxRecDepth 20000 in
theorem w_883 : Cond.instanceMethod yX12_becomes ∈ gtbl := gt_in (i := 883) rfl rfl
set_option maxRecDepth 20000 in
theorem w_884 : Cond.code yX12_becomes prog_14_method_8_code (4 : Nat) (Option.some FieldType.int) ∈ gtbl := gt_in (i := 884) rfl rfl
set_option maxRecDepth 20000 in
theorem w_885 : Cond.constant "FeltedWashModel" (41 : Nat) (-1000000001 : Int32) ∈ gtbl := gt_in (i := 885) rfl rfl
set_option maxRecDepth 20000 in
theorem w_886 : Cond.methodLink "FeltedWashModel" (63 : Nat) yX12_finds ∈ gtbl := gt_in (i := 886) rfl rfl
set_option maxRecDepth 20000 in
theorem w_888 : Cond.instanceMethod yX12_finds ∈ gtbl := gt_in (i := 888) rfl rfl
set_option maxRecDepth 20000 in
theorem w_889 : Cond.code yX12_finds prog_14_method_3_code (2 : Nat) (Option.some FieldType.int) ∈ gtbl := gt_in (i := 889) rfl rfl
set_option maxRecDepth 20000 in
theorem w_890 : Cond.methodLink "FeltedWashLaw" (22 : Nat) yX12_now ∈ gtbl := gt_in (i := 890) rfl rfl
set_option maxRecDepth 20000 in
theorem w_891 : Cond.instanceMethod yX12_now ∈ gtbl := gt_in (i := 891) rfl rfl
set_option maxRecDepth 20000 in
theorem w_892 : Cond.selects "FeltedWashModel" yX12_now yX12_now ∈ gtbl := gt_in (i := 892) rfl rfl
set_option maxRecDepth 20000 in
theorem w_893 : Cond.code yX12_now prog_14_method_23_code (2 : Nat) (Option.some FieldType.int) ∈ gtbl := gt_in (i := 893) rfl rfl
set_option maxRecDepth 20000 in
theorem w_894 : Cond.methodLink "FeltedWashModel" (82 : Nat) yX12_wetOnes ∈ gtbl := gt_in (i := 894) rfl rfl
set_option maxRecDepth 20000 in
theorem w_896 : Cond.instanceMethod yX12_wetOnes ∈ gtbl := gt_in (i := 896) rfl rfl
set_option maxRecDepth 20000 in
theorem w_897 : Cond.code yX12_wetOnes prog_14_method_19_code (3 : Nat) (Option.some FieldType.int) ∈ gtbl := gt_in (i := 897) rfl rfl
set_option maxRecDepth 20000 in
theorem w_898 : Cond.methodLink "FeltedWashModel" (67 : Nat) yX12_its ∈ gtbl := gt_in (i := 898) rfl rfl
set_option maxRecDepth 20000 in
theorem w_900 : Cond.instanceMethod yX12_its ∈ gtbl := gt_in (i := 900) rfl rfl
set_option maxRecDepth 20000 in
theorem w_901 : Cond.code yX12_its prog_14_method_10_code (3 : Nat) (Option.some FieldType.int) ∈ gtbl := gt_in (i := 901) rfl rfl
set_option maxRecDepth 20000 in
theorem w_902 : Cond.methodLink "FeltedWashModel" (42 : Nat) yX12_spot ∈ gtbl := gt_in (i := 902) rfl rfl
set_option maxRecDepth 20000 in
theorem w_903 : Cond.static yX12_spot ∈ gtbl := gt_in (i := 903) rfl rfl
set_option maxRecDepth 20000 in
theorem w_904 : Cond.code yX12_spot prog_14_method_9_code (2 : Nat) (Option.some FieldType.int) ∈ gtbl := gt_in (i := 904) rfl rfl
set_option maxRecDepth 20000 in
theorem w_905 : Cond.methodLink "FeltedWashModel" (86 : Nat) yX12_holedOnes ∈ gtbl := gt_in (i := 905) rfl rfl
set_option maxRecDepth 20000 in
theorem w_907 : Cond.instanceMethod yX12_holedOnes ∈ gtbl := gt_in (i := 907) rfl rfl
set_option maxRecDepth 20000 in
theorem w_908 : Cond.code yX12_holedOnes prog_14_method_20_code (3 : Nat) (Option.some FieldType.int) ∈ gtbl := gt_in (i := 908) rfl rfl
set_option maxRecDepth 20000 in
theorem w_909 : Cond.methodLink "FeltedWashModel" (89 : Nat) yX12_fittingAny ∈ gtbl := gt_in (i := 909) rfl rfl
set_option maxRecDepth 20000 in
theorem w_911 : Cond.instanceMethod yX12_fittingAny ∈ gtbl := gt_in (i := 911) rfl rfl
set_option maxRecDepth 20000 in
theorem w_912 : Cond.code yX12_fittingAny prog_14_method_22_code (3 : Nat) (Option.some FieldType.int) ∈ gtbl := gt_in (i := 912) rfl rfl
set_option maxRecDepth 20000 in
theorem w_913 : Cond.methodLink "FeltedWashModel" (79 : Nat) yX12_fittingOnes ∈ gtbl := gt_in (i := 913) rfl rfl
set_option maxRecDepth 20000 in
theorem w_915 : Cond.instanceMethod yX12_fittingOnes ∈ gtbl := gt_in (i := 915) rfl rfl
set_option maxRecDepth 20000 in
theorem w_916 : Cond.code yX12_fittingOnes prog_14_method_21_code (4 : Nat) (Option.some FieldType.int) ∈ gtbl := gt_in (i := 916) rfl rfl
set_option maxRecDepth 20000 in
theorem w_917 : Cond.methodLink "FeltedWashModel" (75 : Nat) yX12_isFitting ∈ gtbl := gt_in (i := 917) rfl rfl
set_option maxRecDepth 20000 in
theorem w_919 : Cond.instanceMethod yX12_isFitting ∈ gtbl := gt_in (i := 919) rfl rfl
set_option maxRecDepth 20000 in
theorem w_920 : Cond.code yX12_isFitting prog_14_method_18_code (5 : Nat) (Option.some FieldType.boolean) ∈ gtbl := gt_in (i := 920) rfl rfl
set_option maxRecDepth 20000 in
theorem w_921 : Cond.methodLink "FeltedWashModel" (70 : Nat) yX12_sizeOfOne ∈ gtbl := gt_in (i := 921) rfl rfl
set_option maxRecDepth 20000 in
theorem w_923 : Cond.instanceMethod yX12_sizeOfOne ∈ gtbl := gt_in (i := 923) rfl rfl
set_option maxRecDepth 20000 in
theorem w_924 : Cond.code yX12_sizeOfOne prog_14_method_11_code (3 : Nat) (Option.some FieldType.int) ∈ gtbl := gt_in (i := 924) rfl rfl
set_option maxRecDepth 20000 in
theorem w_925 : Cond.constantLong "FeltedWashModel" (52 : Nat) (10 : Int64) ∈ gtbl := gt_in (i := 925) rfl rfl
set_option maxRecDepth 20000 in
theorem w_926 : Cond.constantLong "FeltedWashModel" (73 : Nat) (15 : Int64) ∈ gtbl := gt_in (i := 926) rfl rfl
set_option maxRecDepth 20000 in
theorem w_927 : Cond.methodLink "FeltedWashLaw" (26 : Nat) yX12_garment ∈ gtbl := gt_in (i := 927) rfl rfl
set_option maxRecDepth 20000 in
theorem w_928 : Cond.instanceMethod yX12_garment ∈ gtbl := gt_in (i := 928) rfl rfl
set_option maxRecDepth 20000 in
theorem w_929 : Cond.selects "FeltedWashModel" yX12_garment yX12_garment ∈ gtbl := gt_in (i := 929) rfl rfl
set_option maxRecDepth 20000 in
theorem w_930 : Cond.code yX12_garment prog_14_method_29_code (2 : Nat) (Option.some FieldType.int) ∈ gtbl := gt_in (i := 930) rfl rfl
set_option maxRecDepth 20000 in
theorem w_931 : Cond.methodLink "FeltedWashModel" (95 : Nat) yX12_isKind ∈ gtbl := gt_in (i := 931) rfl rfl
set_option maxRecDepth 20000 in
theorem w_932 : Cond.static yX12_isKind ∈ gtbl := gt_in (i := 932) rfl rfl
set_option maxRecDepth 20000 in
theorem w_933 : Cond.code yX12_isKind prog_14_method_14_code (1 : Nat) (Option.some FieldType.boolean) ∈ gtbl := gt_in (i := 933) rfl rfl
set_option maxRecDepth 20000 in
theorem w_934 : Cond.constantLong "FeltedWashModel" (50 : Nat) (5 : Int64) ∈ gtbl := gt_in (i := 934) rfl rfl
set_option maxRecDepth 20000 in
theorem w_935 : Cond.constant "FeltedWashModel" (99 : Nat) (-1000000002 : Int32) ∈ gtbl := gt_in (i := 935) rfl rfl
set_option maxRecDepth 20000 in
theorem w_936 : Cond.methodLink "FeltedWashModel" (100 : Nat) yX12_adds ∈ gtbl := gt_in (i := 936) rfl rfl
set_option maxRecDepth 20000 in
theorem w_938 : Cond.instanceMethod yX12_adds ∈ gtbl := gt_in (i := 938) rfl rfl
set_option maxRecDepth 20000 in
theorem w_939 : Cond.code yX12_adds prog_14_method_28_code (4 : Nat) (Option.some FieldType.int) ∈ gtbl := gt_in (i := 939) rfl rfl
set_option maxRecDepth 20000 in
theorem w_940 : Cond.methodLink "FeltedWashLaw" (30 : Nat) yX12_of ∈ gtbl := gt_in (i := 940) rfl rfl
set_option maxRecDepth 20000 in
theorem w_941 : Cond.instanceMethod yX12_of ∈ gtbl := gt_in (i := 941) rfl rfl
set_option maxRecDepth 20000 in
theorem w_942 : Cond.selects "FeltedWashModel" yX12_of yX12_of ∈ gtbl := gt_in (i := 942) rfl rfl
set_option maxRecDepth 20000 in
theorem w_943 : Cond.code yX12_of prog_14_method_30_code (3 : Nat) (Option.some FieldType.int) ∈ gtbl := gt_in (i := 943) rfl rfl
set_option maxRecDepth 20000 in
theorem w_944 : Cond.methodLink "FeltedWashModel" (103 : Nat) yX12_isGarment ∈ gtbl := gt_in (i := 944) rfl rfl
set_option maxRecDepth 20000 in
theorem w_946 : Cond.instanceMethod yX12_isGarment ∈ gtbl := gt_in (i := 946) rfl rfl
set_option maxRecDepth 20000 in
theorem w_947 : Cond.code yX12_isGarment prog_14_method_12_code (2 : Nat) (Option.some FieldType.boolean) ∈ gtbl := gt_in (i := 947) rfl rfl
set_option maxRecDepth 20000 in
theorem w_948 : Cond.methodLink "FeltedWashModel" (92 : Nat) yX12_shrinksOf ∈ gtbl := gt_in (i := 948) rfl rfl
set_option maxRecDepth 20000 in
theorem w_950 : Cond.instanceMethod yX12_shrinksOf ∈ gtbl := gt_in (i := 950) rfl rfl
set_option maxRecDepth 20000 in
theorem w_951 : Cond.code yX12_shrinksOf prog_14_method_24_code (4 : Nat) (Option.some FieldType.int) ∈ gtbl := gt_in (i := 951) rfl rfl
set_option maxRecDepth 20000 in
theorem w_952 : Cond.methodLink "FeltedWashModel" (106 : Nat) yX12_feltsOf ∈ gtbl := gt_in (i := 952) rfl rfl
set_option maxRecDepth 20000 in
theorem w_954 : Cond.instanceMethod yX12_feltsOf ∈ gtbl := gt_in (i := 954) rfl rfl
set_option maxRecDepth 20000 in
theorem w_955 : Cond.code yX12_feltsOf prog_14_method_25_code (3 : Nat) (Option.some FieldType.int) ∈ gtbl := gt_in (i := 955) rfl rfl
set_option maxRecDepth 20000 in
theorem w_956 : Cond.methodLink "FeltedWashModel" (109 : Nat) yX12_bearsOf ∈ gtbl := gt_in (i := 956) rfl rfl
set_option maxRecDepth 20000 in
theorem w_958 : Cond.instanceMethod yX12_bearsOf ∈ gtbl := gt_in (i := 958) rfl rfl
set_option maxRecDepth 20000 in
theorem w_959 : Cond.code yX12_bearsOf prog_14_method_26_code (3 : Nat) (Option.some FieldType.int) ∈ gtbl := gt_in (i := 959) rfl rfl
set_option maxRecDepth 20000 in
theorem w_960 : Cond.methodLink "FeltedWashModel" (112 : Nat) yX12_keepsOf ∈ gtbl := gt_in (i := 960) rfl rfl
set_option maxRecDepth 20000 in
theorem w_962 : Cond.instanceMethod yX12_keepsOf ∈ gtbl := gt_in (i := 962) rfl rfl
set_option maxRecDepth 20000 in
theorem w_963 : Cond.code yX12_keepsOf prog_14_method_27_code (2 : Nat) (Option.some FieldType.int) ∈ gtbl := gt_in (i := 963) rfl rfl
set_option maxRecDepth 20000 in
theorem w_964 : Cond.methodLink "FeltedWashLaw" (35 : Nat) yX12_set ∈ gtbl := gt_in (i := 964) rfl rfl
set_option maxRecDepth 20000 in
theorem w_965 : Cond.instanceMethod yX12_set ∈ gtbl := gt_in (i := 965) rfl rfl
set_option maxRecDepth 20000 in
theorem w_966 : Cond.selects "FeltedWashModel" yX12_set yX12_set ∈ gtbl := gt_in (i := 966) rfl rfl
set_option maxRecDepth 20000 in
theorem w_967 : Cond.code yX12_set prog_14_method_32_code (4 : Nat) (Option.some FieldType.int) ∈ gtbl := gt_in (i := 967) rfl rfl
set_option maxRecDepth 20000 in
theorem w_968 : Cond.methodLink "FeltedWashModel" (123 : Nat) yX12_isSet ∈ gtbl := gt_in (i := 968) rfl rfl
set_option maxRecDepth 20000 in
theorem w_969 : Cond.static yX12_isSet ∈ gtbl := gt_in (i := 969) rfl rfl
set_option maxRecDepth 20000 in
theorem w_970 : Cond.code yX12_isSet prog_14_method_31_code (2 : Nat) (Option.some FieldType.boolean) ∈ gtbl := gt_in (i := 970) rfl rfl
set_option maxRecDepth 20000 in
theorem w_971 : Cond.methodLink "FeltedWashModel" (115 : Nat) yX12_isSize ∈ gtbl := gt_in (i := 971) rfl rfl
set_option maxRecDepth 20000 in
theorem w_972 : Cond.static yX12_isSize ∈ gtbl := gt_in (i := 972) rfl rfl
set_option maxRecDepth 20000 in
theorem w_973 : Cond.code yX12_isSize prog_14_method_15_code (2 : Nat) (Option.some FieldType.boolean) ∈ gtbl := gt_in (i := 973) rfl rfl
set_option maxRecDepth 20000 in
theorem w_974 : Cond.constantLong "FeltedWashModel" (54 : Nat) (200 : Int64) ∈ gtbl := gt_in (i := 974) rfl rfl
set_option maxRecDepth 20000 in
theorem w_975 : Cond.constantLong "FeltedWashModel" (119 : Nat) (99 : Int64) ∈ gtbl := gt_in (i := 975) rfl rfl
set_option maxRecDepth 20000 in
theorem w_976 : Cond.constantLong "FeltedWashModel" (121 : Nat) (9999 : Int64) ∈ gtbl := gt_in (i := 976) rfl rfl
set_option maxRecDepth 20000 in
theorem w_977 : Cond.methodLink "FeltedWashLaw" (39 : Nat) yX12_wash ∈ gtbl := gt_in (i := 977) rfl rfl
set_option maxRecDepth 20000 in
theorem w_978 : Cond.instanceMethod yX12_wash ∈ gtbl := gt_in (i := 978) rfl rfl
set_option maxRecDepth 20000 in
theorem w_979 : Cond.selects "FeltedWashModel" yX12_wash yX12_wash ∈ gtbl := gt_in (i := 979) rfl rfl
set_option maxRecDepth 20000 in
theorem w_980 : Cond.code yX12_wash prog_14_method_35_code (2 : Nat) (Option.some FieldType.int) ∈ gtbl := gt_in (i := 980) rfl rfl
set_option maxRecDepth 20000 in
theorem w_981 : Cond.methodLink "FeltedWashModel" (134 : Nat) yX12_washed ∈ gtbl := gt_in (i := 981) rfl rfl
set_option maxRecDepth 20000 in
theorem w_983 : Cond.instanceMethod yX12_washed ∈ gtbl := gt_in (i := 983) rfl rfl
set_option maxRecDepth 20000 in
theorem w_984 : Cond.code yX12_washed prog_14_method_34_code (4 : Nat) (Option.some FieldType.int) ∈ gtbl := gt_in (i := 984) rfl rfl
set_option maxRecDepth 20000 in
theorem w_985 : Cond.methodLink "FeltedWashModel" (130 : Nat) yX12_shrinks ∈ gtbl := gt_in (i := 985) rfl rfl
set_option maxRecDepth 20000 in
theorem w_987 : Cond.instanceMethod yX12_shrinks ∈ gtbl := gt_in (i := 987) rfl rfl
set_option maxRecDepth 20000 in
theorem w_988 : Cond.code yX12_shrinks prog_14_method_33_code (4 : Nat) (Option.none : Option FieldType) ∈ gtbl := gt_in (i := 988) rfl rfl
set_option maxRecDepth 20000 in
theorem w_989 : Cond.methodLink "FeltedWashModel" (126 : Nat) yX12_held ∈ gtbl := gt_in (i := 989) rfl rfl
set_option maxRecDepth 20000 in
theorem w_990 : Cond.static yX12_held ∈ gtbl := gt_in (i := 990) rfl rfl
set_option maxRecDepth 20000 in
theorem w_991 : Cond.code yX12_held prog_14_method_16_code (3 : Nat) (Option.some FieldType.int) ∈ gtbl := gt_in (i := 991) rfl rfl
set_option maxRecDepth 20000 in
theorem w_992 : Cond.methodLink "FeltedWashLaw" (43 : Nat) yX12_draw ∈ gtbl := gt_in (i := 992) rfl rfl
set_option maxRecDepth 20000 in
theorem w_993 : Cond.instanceMethod yX12_draw ∈ gtbl := gt_in (i := 993) rfl rfl
set_option maxRecDepth 20000 in
theorem w_994 : Cond.selects "FeltedWashModel" yX12_draw yX12_draw ∈ gtbl := gt_in (i := 994) rfl rfl
set_option maxRecDepth 20000 in
theorem w_995 : Cond.code yX12_draw prog_14_method_37_code (3 : Nat) (Option.some FieldType.int) ∈ gtbl := gt_in (i := 995) rfl rfl
set_option maxRecDepth 20000 in
theorem w_996 : Cond.constantLong "FeltedWashModel" (137 : Nat) (50 : Int64) ∈ gtbl := gt_in (i := 996) rfl rfl
set_option maxRecDepth 20000 in
theorem w_997 : Cond.constant "FeltedWashModel" (139 : Nat) (-1000000005 : Int32) ∈ gtbl := gt_in (i := 997) rfl rfl
set_option maxRecDepth 20000 in
theorem w_998 : Cond.methodLink "FeltedWashModel" (140 : Nat) yX12_drawn ∈ gtbl := gt_in (i := 998) rfl rfl
set_option maxRecDepth 20000 in
theorem w_1000 : Cond.instanceMethod yX12_drawn ∈ gtbl := gt_in (i := 1000) rfl rfl
set_option maxRecDepth 20000 in
theorem w_1001 : Cond.code yX12_drawn prog_14_method_36_code (4 : Nat) (Option.some FieldType.int) ∈ gtbl := gt_in (i := 1001) rfl rfl
set_option maxRecDepth 20000 in
theorem w_1002 : Cond.methodLink "FeltedWashLaw" (47 : Nat) yX12_turn ∈ gtbl := gt_in (i := 1002) rfl rfl
set_option maxRecDepth 20000 in
theorem w_1003 : Cond.instanceMethod yX12_turn ∈ gtbl := gt_in (i := 1003) rfl rfl
set_option maxRecDepth 20000 in
theorem w_1004 : Cond.selects "FeltedWashModel" yX12_turn yX12_turn ∈ gtbl := gt_in (i := 1004) rfl rfl
set_option maxRecDepth 20000 in
theorem w_1005 : Cond.code yX12_turn prog_14_method_38_code (3 : Nat) (Option.some FieldType.int) ∈ gtbl := gt_in (i := 1005) rfl rfl
set_option maxRecDepth 20000 in
theorem w_1006 : Cond.methodLink "FeltedWashLaw" (51 : Nat) yX12_as ∈ gtbl := gt_in (i := 1006) rfl rfl
set_option maxRecDepth 20000 in
theorem w_1007 : Cond.instanceMethod yX12_as ∈ gtbl := gt_in (i := 1007) rfl rfl
set_option maxRecDepth 20000 in
theorem w_1008 : Cond.selects "FeltedWashModel" yX12_as yX12_as ∈ gtbl := gt_in (i := 1008) rfl rfl
set_option maxRecDepth 20000 in
theorem w_1009 : Cond.code yX12_as prog_14_method_40_code (3 : Nat) (Option.some FieldType.int) ∈ gtbl := gt_in (i := 1009) rfl rfl
set_option maxRecDepth 20000 in
theorem w_1010 : Cond.methodLink "FeltedWashModel" (143 : Nat) yX12_isUnder ∈ gtbl := gt_in (i := 1010) rfl rfl
set_option maxRecDepth 20000 in
theorem w_1011 : Cond.static yX12_isUnder ∈ gtbl := gt_in (i := 1011) rfl rfl
set_option maxRecDepth 20000 in
theorem w_1012 : Cond.code yX12_isUnder prog_14_method_39_code (2 : Nat) (Option.some FieldType.boolean) ∈ gtbl := gt_in (i := 1012) rfl rfl
set_option maxRecDepth 20000 in
theorem w_1013 : Cond.constant "FeltedWashModel" (146 : Nat) (-1000000003 : Int32) ∈ gtbl := gt_in (i := 1013) rfl rfl
set_option maxRecDepth 20000 in
theorem w_1014 : Cond.methodLink "FeltedWashLaw" (55 : Nat) yX12_person ∈ gtbl := gt_in (i := 1014) rfl rfl
set_option maxRecDepth 20000 in
theorem w_1015 : Cond.instanceMethod yX12_person ∈ gtbl := gt_in (i := 1015) rfl rfl
set_option maxRecDepth 20000 in
theorem w_1016 : Cond.selects "FeltedWashModel" yX12_person yX12_person ∈ gtbl := gt_in (i := 1016) rfl rfl
set_option maxRecDepth 20000 in
theorem w_1017 : Cond.code yX12_person prog_14_method_42_code (3 : Nat) (Option.some FieldType.int) ∈ gtbl := gt_in (i := 1017) rfl rfl
set_option maxRecDepth 20000 in
theorem w_1018 : Cond.methodLink "FeltedWashModel" (147 : Nat) yX12_addsPerson ∈ gtbl := gt_in (i := 1018) rfl rfl
set_option maxRecDepth 20000 in
theorem w_1020 : Cond.instanceMethod yX12_addsPerson ∈ gtbl := gt_in (i := 1020) rfl rfl
set_option maxRecDepth 20000 in
theorem w_1021 : Cond.code yX12_addsPerson prog_14_method_41_code (4 : Nat) (Option.some FieldType.int) ∈ gtbl := gt_in (i := 1021) rfl rfl
set_option maxRecDepth 20000 in
theorem w_1022 : Cond.methodLink "FeltedWashLaw" (59 : Nat) yX12_size ∈ gtbl := gt_in (i := 1022) rfl rfl
set_option maxRecDepth 20000 in
theorem w_1023 : Cond.instanceMethod yX12_size ∈ gtbl := gt_in (i := 1023) rfl rfl
set_option maxRecDepth 20000 in
theorem w_1024 : Cond.selects "FeltedWashModel" yX12_size yX12_size ∈ gtbl := gt_in (i := 1024) rfl rfl
set_option maxRecDepth 20000 in
theorem w_1025 : Cond.code yX12_size prog_14_method_43_code (3 : Nat) (Option.some FieldType.int) ∈ gtbl := gt_in (i := 1025) rfl rfl
set_option maxRecDepth 20000 in
theorem w_1026 : Cond.methodLink "FeltedWashModel" (150 : Nat) yX12_isPerson ∈ gtbl := gt_in (i := 1026) rfl rfl
set_option maxRecDepth 20000 in
theorem w_1028 : Cond.instanceMethod yX12_isPerson ∈ gtbl := gt_in (i := 1028) rfl rfl
set_option maxRecDepth 20000 in
theorem w_1029 : Cond.code yX12_isPerson prog_14_method_13_code (2 : Nat) (Option.some FieldType.boolean) ∈ gtbl := gt_in (i := 1029) rfl rfl
set_option maxRecDepth 20000 in
theorem w_1030 : Cond.methodLink "FeltedWashLaw" (63 : Nat) yX12_fits ∈ gtbl := gt_in (i := 1030) rfl rfl
set_option maxRecDepth 20000 in
theorem w_1031 : Cond.instanceMethod yX12_fits ∈ gtbl := gt_in (i := 1031) rfl rfl
set_option maxRecDepth 20000 in
theorem w_1032 : Cond.selects "FeltedWashModel" yX12_fits yX12_fits ∈ gtbl := gt_in (i := 1032) rfl rfl
set_option maxRecDepth 20000 in
theorem w_1033 : Cond.code yX12_fits prog_14_method_44_code (2 : Nat) (Option.some FieldType.int) ∈ gtbl := gt_in (i := 1033) rfl rfl
set_option maxRecDepth 20000 in
theorem w_1034 : Cond.methodLink "FeltedWashLaw" (67 : Nat) yX12_days ∈ gtbl := gt_in (i := 1034) rfl rfl
set_option maxRecDepth 20000 in
theorem w_1035 : Cond.instanceMethod yX12_days ∈ gtbl := gt_in (i := 1035) rfl rfl
set_option maxRecDepth 20000 in
theorem w_1036 : Cond.selects "FeltedWashModel" yX12_days yX12_days ∈ gtbl := gt_in (i := 1036) rfl rfl
set_option maxRecDepth 20000 in
theorem w_1037 : Cond.code yX12_days prog_14_method_47_code (2 : Nat) (Option.some FieldType.int) ∈ gtbl := gt_in (i := 1037) rfl rfl
set_option maxRecDepth 20000 in
theorem w_1038 : Cond.constantLong "FeltedWashModel" (157 : Nat) (100 : Int64) ∈ gtbl := gt_in (i := 1038) rfl rfl
set_option maxRecDepth 20000 in
theorem w_1039 : Cond.constant "FeltedWashModel" (159 : Nat) (99999 : Int32) ∈ gtbl := gt_in (i := 1039) rfl rfl
set_option maxRecDepth 20000 in
theorem w_1040 : Cond.methodLink "FeltedWashModel" (160 : Nat) yX12_daysGo ∈ gtbl := gt_in (i := 1040) rfl rfl
set_option maxRecDepth 20000 in
theorem w_1042 : Cond.instanceMethod yX12_daysGo ∈ gtbl := gt_in (i := 1042) rfl rfl
set_option maxRecDepth 20000 in
theorem w_1043 : Cond.code yX12_daysGo prog_14_method_46_code (4 : Nat) (Option.none : Option FieldType) ∈ gtbl := gt_in (i := 1043) rfl rfl
set_option maxRecDepth 20000 in
theorem w_1044 : Cond.methodLink "FeltedWashModel" (153 : Nat) yX12_dries ∈ gtbl := gt_in (i := 1044) rfl rfl
set_option maxRecDepth 20000 in
theorem w_1046 : Cond.instanceMethod yX12_dries ∈ gtbl := gt_in (i := 1046) rfl rfl
set_option maxRecDepth 20000 in
theorem w_1047 : Cond.code yX12_dries prog_14_method_45_code (3 : Nat) (Option.none : Option FieldType) ∈ gtbl := gt_in (i := 1047) rfl rfl
set_option maxRecDepth 20000 in
theorem w_1048 : Cond.methodLink "FeltedWashLaw" (71 : Nat) yX12_on ∈ gtbl := gt_in (i := 1048) rfl rfl
set_option maxRecDepth 20000 in
theorem w_1049 : Cond.instanceMethod yX12_on ∈ gtbl := gt_in (i := 1049) rfl rfl
set_option maxRecDepth 20000 in
theorem w_1050 : Cond.selects "FeltedWashModel" yX12_on yX12_on ∈ gtbl := gt_in (i := 1050) rfl rfl
set_option maxRecDepth 20000 in
theorem w_1051 : Cond.code yX12_on prog_14_method_49_code (4 : Nat) (Option.some FieldType.int) ∈ gtbl := gt_in (i := 1051) rfl rfl
set_option maxRecDepth 20000 in
theorem w_1052 : Cond.methodLink "FeltedWashModel" (163 : Nat) yX12_isAhead ∈ gtbl := gt_in (i := 1052) rfl rfl
set_option maxRecDepth 20000 in
theorem w_1053 : Cond.static yX12_isAhead ∈ gtbl := gt_in (i := 1053) rfl rfl
set_option maxRecDepth 20000 in
theorem w_1054 : Cond.code yX12_isAhead prog_14_method_48_code (1 : Nat) (Option.some FieldType.boolean) ∈ gtbl := gt_in (i := 1054) rfl rfl
set_option maxRecDepth 20000 in
theorem w_1055 : Cond.constantLong "FeltedWashModel" (166 : Nat) (2 : Int64) ∈ gtbl := gt_in (i := 1055) rfl rfl
set_option maxRecDepth 20000 in
theorem w_1056 : Cond.methodLink "FeltedWashModel" (168 : Nat) yX12_laysAside ∈ gtbl := gt_in (i := 1056) rfl rfl
set_option maxRecDepth 20000 in
theorem w_1058 : Cond.instanceMethod yX12_laysAside ∈ gtbl := gt_in (i := 1058) rfl rfl
set_option maxRecDepth 20000 in
theorem w_1059 : Cond.code yX12_laysAside prog_14_method_6_code (2 : Nat) (Option.none : Option FieldType) ∈ gtbl := gt_in (i := 1059) rfl rfl
set_option maxRecDepth 20000 in
theorem w_1060 : Cond.methodLink "FeltedWashModel" (171 : Nat) yX12_takesBack ∈ gtbl := gt_in (i := 1060) rfl rfl
set_option maxRecDepth 20000 in
theorem w_1062 : Cond.instanceMethod yX12_takesBack ∈ gtbl := gt_in (i := 1062) rfl rfl
set_option maxRecDepth 20000 in
theorem w_1063 : Cond.code yX12_takesBack prog_14_method_7_code (3 : Nat) (Option.some FieldType.int) ∈ gtbl := gt_in (i := 1063) rfl rfl
set_option maxRecDepth 20000 in
theorem w_1064 : Cond.methodLink "FeltedWashLaw" (75 : Nat) yX12_again ∈ gtbl := gt_in (i := 1064) rfl rfl
set_option maxRecDepth 20000 in
theorem w_1065 : Cond.instanceMethod yX12_again ∈ gtbl := gt_in (i := 1065) rfl rfl
set_option maxRecDepth 20000 in
theorem w_1066 : Cond.selects "FeltedWashModel" yX12_again yX12_again ∈ gtbl := gt_in (i := 1066) rfl rfl
set_option maxRecDepth 20000 in
theorem w_1067 : Cond.code yX12_again prog_14_method_52_code (4 : Nat) (Option.some FieldType.int) ∈ gtbl := gt_in (i := 1067) rfl rfl
set_option maxRecDepth 20000 in
theorem w_1068 : Cond.constantLong "FeltedWashModel" (178 : Nat) (40 : Int64) ∈ gtbl := gt_in (i := 1068) rfl rfl
set_option maxRecDepth 20000 in
theorem w_1069 : Cond.methodLink "FeltedWashModel" (180 : Nat) yX12_washedTo ∈ gtbl := gt_in (i := 1069) rfl rfl
set_option maxRecDepth 20000 in
theorem w_1071 : Cond.instanceMethod yX12_washedTo ∈ gtbl := gt_in (i := 1071) rfl rfl
set_option maxRecDepth 20000 in
theorem w_1072 : Cond.code yX12_washedTo prog_14_method_51_code (4 : Nat) (Option.some FieldType.int) ∈ gtbl := gt_in (i := 1072) rfl rfl
set_option maxRecDepth 20000 in
theorem w_1073 : Cond.methodLink "FeltedWashModel" (174 : Nat) yX12_isWashed ∈ gtbl := gt_in (i := 1073) rfl rfl
set_option maxRecDepth 20000 in
theorem w_1075 : Cond.instanceMethod yX12_isWashed ∈ gtbl := gt_in (i := 1075) rfl rfl
set_option maxRecDepth 20000 in
theorem w_1076 : Cond.code yX12_isWashed prog_14_method_50_code (4 : Nat) (Option.none : Option FieldType) ∈ gtbl := gt_in (i := 1076) rfl rfl
set_option maxRecDepth 20000 in
theorem w_1077 : Cond.methodLink "FeltedWashLaw" (79 : Nat) yX12_washes ∈ gtbl := gt_in (i := 1077) rfl rfl
set_option maxRecDepth 20000 in
theorem w_1078 : Cond.instanceMethod yX12_washes ∈ gtbl := gt_in (i := 1078) rfl rfl
set_option maxRecDepth 20000 in
theorem w_1079 : Cond.selects "FeltedWashModel" yX12_washes yX12_washes ∈ gtbl := gt_in (i := 1079) rfl rfl
set_option maxRecDepth 20000 in
theorem w_1080 : Cond.code yX12_washes prog_14_method_54_code (5 : Nat) (Option.some FieldType.int) ∈ gtbl := gt_in (i := 1080) rfl rfl
set_option maxRecDepth 20000 in
theorem w_1081 : Cond.methodLink "FeltedWashModel" (183 : Nat) yX12_isFittingBy ∈ gtbl := gt_in (i := 1081) rfl rfl
set_option maxRecDepth 20000 in
theorem w_1083 : Cond.instanceMethod yX12_isFittingBy ∈ gtbl := gt_in (i := 1083) rfl rfl
set_option maxRecDepth 20000 in
theorem w_1084 : Cond.code yX12_isFittingBy prog_14_method_53_code (5 : Nat) (Option.some FieldType.boolean) ∈ gtbl := gt_in (i := 1084) rfl rfl
set_option maxRecDepth 20000 in
theorem w_1085 : Cond.constant "FeltedWashModel" (187 : Nat) (-1000000004 : Int32) ∈ gtbl := gt_in (i := 1085) rfl rfl
set_option maxRecDepth 20000 in
theorem w_1086 : Cond.methodLink "FeltedWashLaw" (83 : Nat) yX12_warmest ∈ gtbl := gt_in (i := 1086) rfl rfl
set_option maxRecDepth 20000 in
theorem w_1087 : Cond.instanceMethod yX12_warmest ∈ gtbl := gt_in (i := 1087) rfl rfl
set_option maxRecDepth 20000 in
theorem w_1088 : Cond.selects "FeltedWashModel" yX12_warmest yX12_warmest ∈ gtbl := gt_in (i := 1088) rfl rfl
set_option maxRecDepth 20000 in
theorem w_1089 : Cond.code yX12_warmest prog_14_method_55_code (6 : Nat) (Option.some FieldType.int) ∈ gtbl := gt_in (i := 1089) rfl rfl
set_option maxRecDepth 20000 in
theorem w_1090 : Cond.methodLink "FeltedWashLaw" (87 : Nat) yX12_pull ∈ gtbl := gt_in (i := 1090) rfl rfl
set_option maxRecDepth 20000 in
theorem w_1091 : Cond.instanceMethod yX12_pull ∈ gtbl := gt_in (i := 1091) rfl rfl
set_option maxRecDepth 20000 in
theorem w_1092 : Cond.selects "FeltedWashModel" yX12_pull yX12_pull ∈ gtbl := gt_in (i := 1092) rfl rfl
set_option maxRecDepth 20000 in
theorem w_1093 : Cond.code yX12_pull prog_14_method_56_code (5 : Nat) (Option.some FieldType.int) ∈ gtbl := gt_in (i := 1093) rfl rfl
set_option maxRecDepth 20000 in
theorem w_1094 : Cond.methodLink "FeltedWashLaw" (91 : Nat) yX12_kind ∈ gtbl := gt_in (i := 1094) rfl rfl
set_option maxRecDepth 20000 in
theorem w_1095 : Cond.instanceMethod yX12_kind ∈ gtbl := gt_in (i := 1095) rfl rfl
set_option maxRecDepth 20000 in
theorem w_1096 : Cond.selects "FeltedWashModel" yX12_kind yX12_kind ∈ gtbl := gt_in (i := 1096) rfl rfl
set_option maxRecDepth 20000 in
theorem w_1097 : Cond.code yX12_kind prog_14_method_57_code (8 : Nat) (Option.some FieldType.int) ∈ gtbl := gt_in (i := 1097) rfl rfl
set_option maxRecDepth 20000 in
theorem w_1098 : Cond.methodLink "FeltedWashLaw" (95 : Nat) yX12_dressed ∈ gtbl := gt_in (i := 1098) rfl rfl
set_option maxRecDepth 20000 in
theorem w_1099 : Cond.instanceMethod yX12_dressed ∈ gtbl := gt_in (i := 1099) rfl rfl
set_option maxRecDepth 20000 in
theorem w_1100 : Cond.selects "FeltedWashModel" yX12_dressed yX12_dressed ∈ gtbl := gt_in (i := 1100) rfl rfl
set_option maxRecDepth 20000 in
theorem w_1101 : Cond.code yX12_dressed prog_14_method_59_code (4 : Nat) (Option.some FieldType.int) ∈ gtbl := gt_in (i := 1101) rfl rfl
set_option maxRecDepth 20000 in
theorem w_1102 : Cond.methodLink "FeltedWashModel" (188 : Nat) yX12_manyFitting ∈ gtbl := gt_in (i := 1102) rfl rfl
set_option maxRecDepth 20000 in
theorem w_1104 : Cond.instanceMethod yX12_manyFitting ∈ gtbl := gt_in (i := 1104) rfl rfl
set_option maxRecDepth 20000 in
theorem w_1105 : Cond.code yX12_manyFitting prog_14_method_58_code (4 : Nat) (Option.some FieldType.int) ∈ gtbl := gt_in (i := 1105) rfl rfl
set_option maxRecDepth 20000 in
theorem w_1106 : Cond.methodLink "FeltedWashLaw" (99 : Nat) yX12_shortest ∈ gtbl := gt_in (i := 1106) rfl rfl
set_option maxRecDepth 20000 in
theorem w_1107 : Cond.instanceMethod yX12_shortest ∈ gtbl := gt_in (i := 1107) rfl rfl
set_option maxRecDepth 20000 in
theorem w_1108 : Cond.selects "FeltedWashModel" yX12_shortest yX12_shortest ∈ gtbl := gt_in (i := 1108) rfl rfl
set_option maxRecDepth 20000 in
theorem w_1109 : Cond.code yX12_shortest prog_14_method_60_code (6 : Nat) (Option.some FieldType.int) ∈ gtbl := gt_in (i := 1109) rfl rfl
set_option maxRecDepth 20000 in
theorem w_1110 : Cond.methodLink "FeltedWashLaw" (103 : Nat) yX12_feed ∈ gtbl := gt_in (i := 1110) rfl rfl
set_option maxRecDepth 20000 in
theorem w_1111 : Cond.instanceMethod yX12_feed ∈ gtbl := gt_in (i := 1111) rfl rfl
set_option maxRecDepth 20000 in
theorem w_1112 : Cond.selects "FeltedWashModel" yX12_feed yX12_feed ∈ gtbl := gt_in (i := 1112) rfl rfl
set_option maxRecDepth 20000 in
theorem w_1113 : Cond.code yX12_feed prog_14_method_61_code (4 : Nat) (Option.some FieldType.int) ∈ gtbl := gt_in (i := 1113) rfl rfl
set_option maxRecDepth 20000 in
theorem w_1114 : Cond.constantLong "FeltedWashModel" (191 : Nat) (4 : Int64) ∈ gtbl := gt_in (i := 1114) rfl rfl
set_option maxRecDepth 20000 in
theorem w_1115 : Cond.methodLink "FeltedWashLaw" (108 : Nat) yX12_wipe ∈ gtbl := gt_in (i := 1115) rfl rfl
set_option maxRecDepth 20000 in
theorem w_1116 : Cond.instanceMethod yX12_wipe ∈ gtbl := gt_in (i := 1116) rfl rfl
set_option maxRecDepth 20000 in
theorem w_1117 : Cond.selects "FeltedWashModel" yX12_wipe yX12_wipe ∈ gtbl := gt_in (i := 1117) rfl rfl
set_option maxRecDepth 20000 in
theorem w_1118 : Cond.code yX12_wipe prog_14_method_62_code (2 : Nat) (Option.some FieldType.int) ∈ gtbl := gt_in (i := 1118) rfl rfl
set_option maxRecDepth 20000 in
theorem w_1119 : Cond.methodLink "FeltedWashLaw" (112 : Nat) yX12_basket ∈ gtbl := gt_in (i := 1119) rfl rfl
set_option maxRecDepth 20000 in
theorem w_1120 : Cond.instanceMethod yX12_basket ∈ gtbl := gt_in (i := 1120) rfl rfl
set_option maxRecDepth 20000 in
theorem w_1121 : Cond.selects "FeltedWashModel" yX12_basket yX12_basket ∈ gtbl := gt_in (i := 1121) rfl rfl
set_option maxRecDepth 20000 in
theorem w_1122 : Cond.code yX12_basket prog_14_method_77_code (2 : Nat) (Option.some FieldType.int) ∈ gtbl := gt_in (i := 1122) rfl rfl
set_option maxRecDepth 20000 in
theorem w_1123 : Cond.methodLink "FeltedWashModel" (289 : Nat) yX12_saves ∈ gtbl := gt_in (i := 1123) rfl rfl
set_option maxRecDepth 20000 in
theorem w_1125 : Cond.instanceMethod yX12_saves ∈ gtbl := gt_in (i := 1125) rfl rfl
set_option maxRecDepth 20000 in
theorem w_1126 : Cond.code yX12_saves prog_14_method_4_code (2 : Nat) (Option.none : Option FieldType) ∈ gtbl := gt_in (i := 1126) rfl rfl
set_option maxRecDepth 20000 in
theorem w_1127 : Cond.methodLink "FeltedWashModel" (224 : Nat) yX12_token ∈ gtbl := gt_in (i := 1127) rfl rfl
set_option maxRecDepth 20000 in
theorem w_1129 : Cond.instanceMethod yX12_token ∈ gtbl := gt_in (i := 1129) rfl rfl
set_option maxRecDepth 20000 in
theorem w_1130 : Cond.code yX12_token prog_14_method_66_code (3 : Nat) (Option.none : Option FieldType) ∈ gtbl := gt_in (i := 1130) rfl rfl
set_option maxRecDepth 20000 in
theorem w_1131 : Cond.methodLink "FeltedWashModel" (211 : Nat) yX12_byteAt ∈ gtbl := gt_in (i := 1131) rfl rfl
set_option maxRecDepth 20000 in
theorem w_1133 : Cond.instanceMethod yX12_byteAt ∈ gtbl := gt_in (i := 1133) rfl rfl
set_option maxRecDepth 20000 in
theorem w_1134 : Cond.code yX12_byteAt prog_14_method_63_code (2 : Nat) (Option.some FieldType.int) ∈ gtbl := gt_in (i := 1134) rfl rfl
set_option maxRecDepth 20000 in
theorem w_1135 : Cond.methodLink "FeltedWashModel" (214 : Nat) yX12_isLetter ∈ gtbl := gt_in (i := 1135) rfl rfl
set_option maxRecDepth 20000 in
theorem w_1136 : Cond.static yX12_isLetter ∈ gtbl := gt_in (i := 1136) rfl rfl
set_option maxRecDepth 20000 in
theorem w_1137 : Cond.code yX12_isLetter prog_14_method_64_code (1 : Nat) (Option.some FieldType.boolean) ∈ gtbl := gt_in (i := 1137) rfl rfl
set_option maxRecDepth 20000 in
theorem w_1138 : Cond.constantLong "FeltedWashModel" (197 : Nat) (97 : Int64) ∈ gtbl := gt_in (i := 1138) rfl rfl
set_option maxRecDepth 20000 in
theorem w_1139 : Cond.constantLong "FeltedWashModel" (199 : Nat) (122 : Int64) ∈ gtbl := gt_in (i := 1139) rfl rfl
set_option maxRecDepth 20000 in
theorem w_1140 : Cond.methodLink "FeltedWashModel" (217 : Nat) yX12_isDigit ∈ gtbl := gt_in (i := 1140) rfl rfl
set_option maxRecDepth 20000 in
theorem w_1141 : Cond.static yX12_isDigit ∈ gtbl := gt_in (i := 1141) rfl rfl
set_option maxRecDepth 20000 in
theorem w_1142 : Cond.code yX12_isDigit prog_14_method_65_code (1 : Nat) (Option.some FieldType.boolean) ∈ gtbl := gt_in (i := 1142) rfl rfl
set_option maxRecDepth 20000 in
theorem w_1143 : Cond.constantLong "FeltedWashModel" (201 : Nat) (48 : Int64) ∈ gtbl := gt_in (i := 1143) rfl rfl
set_option maxRecDepth 20000 in
theorem w_1144 : Cond.constantLong "FeltedWashModel" (203 : Nat) (57 : Int64) ∈ gtbl := gt_in (i := 1144) rfl rfl
set_option maxRecDepth 20000 in
theorem w_1145 : Cond.methodLink "FeltedWashModel" (292 : Nat) yX12_item ∈ gtbl := gt_in (i := 1145) rfl rfl
set_option maxRecDepth 20000 in
theorem w_1147 : Cond.instanceMethod yX12_item ∈ gtbl := gt_in (i := 1147) rfl rfl
set_option maxRecDepth 20000 in
theorem w_1148 : Cond.code yX12_item prog_14_method_76_code (4 : Nat) (Option.none : Option FieldType) ∈ gtbl := gt_in (i := 1148) rfl rfl
set_option maxRecDepth 20000 in
theorem w_1149 : Cond.methodLink "FeltedWashModel" (261 : Nat) yX12_kindHere ∈ gtbl := gt_in (i := 1149) rfl rfl
set_option maxRecDepth 20000 in
theorem w_1151 : Cond.instanceMethod yX12_kindHere ∈ gtbl := gt_in (i := 1151) rfl rfl
set_option maxRecDepth 20000 in
theorem w_1152 : Cond.code yX12_kindHere prog_14_method_70_code (3 : Nat) (Option.some FieldType.int) ∈ gtbl := gt_in (i := 1152) rfl rfl
set_option maxRecDepth 20000 in
theorem w_1153 : Cond.methodLink "FeltedWashModel" (238 : Nat) yX12_word ∈ gtbl := gt_in (i := 1153) rfl rfl
set_option maxRecDepth 20000 in
theorem w_1155 : Cond.instanceMethod yX12_word ∈ gtbl := gt_in (i := 1155) rfl rfl
set_option maxRecDepth 20000 in
theorem w_1156 : Cond.code yX12_word prog_14_method_68_code (4 : Nat) (Option.some FieldType.long) ∈ gtbl := gt_in (i := 1156) rfl rfl
set_option maxRecDepth 20000 in
theorem w_1157 : Cond.constantLong "FeltedWashModel" (227 : Nat) (36028797018963967 : Int64) ∈ gtbl := gt_in (i := 1157) rfl rfl
set_option maxRecDepth 20000 in
theorem w_1158 : Cond.constantLong "FeltedWashModel" (229 : Nat) (32 : Int64) ∈ gtbl := gt_in (i := 1158) rfl rfl
set_option maxRecDepth 20000 in
theorem w_1159 : Cond.constantLong "FeltedWashModel" (242 : Nat) (7569053140 : Int64) ∈ gtbl := gt_in (i := 1159) rfl rfl
set_option maxRecDepth 20000 in
theorem w_1160 : Cond.constantLong "FeltedWashModel" (244 : Nat) (769516 : Int64) ∈ gtbl := gt_in (i := 1160) rfl rfl
set_option maxRecDepth 20000 in
theorem w_1161 : Cond.constantLong "FeltedWashModel" (246 : Nat) (117068270 : Int64) ∈ gtbl := gt_in (i := 1161) rfl rfl
set_option maxRecDepth 20000 in
theorem w_1162 : Cond.constantLong "FeltedWashModel" (248 : Nat) (632203 : Int64) ∈ gtbl := gt_in (i := 1162) rfl rfl
set_option maxRecDepth 20000 in
theorem w_1163 : Cond.constantLong "FeltedWashModel" (250 : Nat) (358006962 : Int64) ∈ gtbl := gt_in (i := 1163) rfl rfl
set_option maxRecDepth 20000 in
theorem w_1164 : Cond.constantLong "FeltedWashModel" (252 : Nat) (638059 : Int64) ∈ gtbl := gt_in (i := 1164) rfl rfl
set_option maxRecDepth 20000 in
theorem w_1165 : Cond.methodLink "FeltedWashModel" (264 : Nat) yX12_garmentItem ∈ gtbl := gt_in (i := 1165) rfl rfl
set_option maxRecDepth 20000 in
theorem w_1167 : Cond.instanceMethod yX12_garmentItem ∈ gtbl := gt_in (i := 1167) rfl rfl
set_option maxRecDepth 20000 in
theorem w_1168 : Cond.code yX12_garmentItem prog_14_method_71_code (3 : Nat) (Option.none : Option FieldType) ∈ gtbl := gt_in (i := 1168) rfl rfl
set_option maxRecDepth 20000 in
theorem w_1169 : Cond.methodLink "FeltedWashModel" (234 : Nat) yX12_must ∈ gtbl := gt_in (i := 1169) rfl rfl
set_option maxRecDepth 20000 in
theorem w_1171 : Cond.instanceMethod yX12_must ∈ gtbl := gt_in (i := 1171) rfl rfl
set_option maxRecDepth 20000 in
theorem w_1172 : Cond.code yX12_must prog_14_method_67_code (2 : Nat) (Option.none : Option FieldType) ∈ gtbl := gt_in (i := 1172) rfl rfl
set_option maxRecDepth 20000 in
theorem w_1173 : Cond.constantLong "FeltedWashModel" (254 : Nat) (632645 : Int64) ∈ gtbl := gt_in (i := 1173) rfl rfl
set_option maxRecDepth 20000 in
theorem w_1174 : Cond.methodLink "FeltedWashModel" (256 : Nat) yX12_number ∈ gtbl := gt_in (i := 1174) rfl rfl
set_option maxRecDepth 20000 in
theorem w_1176 : Cond.instanceMethod yX12_number ∈ gtbl := gt_in (i := 1176) rfl rfl
set_option maxRecDepth 20000 in
theorem w_1177 : Cond.code yX12_number prog_14_method_69_code (6 : Nat) (Option.none : Option FieldType) ∈ gtbl := gt_in (i := 1177) rfl rfl
set_option maxRecDepth 20000 in
theorem w_1178 : Cond.constantLong "FeltedWashModel" (259 : Nat) (21242987 : Int64) ∈ gtbl := gt_in (i := 1178) rfl rfl
set_option maxRecDepth 20000 in
theorem w_1179 : Cond.constantLong "FeltedWashModel" (267 : Nat) (542723566 : Int64) ∈ gtbl := gt_in (i := 1179) rfl rfl
set_option maxRecDepth 20000 in
theorem w_1180 : Cond.methodLink "FeltedWashModel" (269 : Nat) yX12_personItem ∈ gtbl := gt_in (i := 1180) rfl rfl
set_option maxRecDepth 20000 in
theorem w_1182 : Cond.instanceMethod yX12_personItem ∈ gtbl := gt_in (i := 1182) rfl rfl
set_option maxRecDepth 20000 in
theorem w_1183 : Cond.code yX12_personItem prog_14_method_72_code (2 : Nat) (Option.none : Option FieldType) ∈ gtbl := gt_in (i := 1183) rfl rfl
set_option maxRecDepth 20000 in
theorem w_1184 : Cond.constantLong "FeltedWashModel" (272 : Nat) (4470674611 : Int64) ∈ gtbl := gt_in (i := 1184) rfl rfl
set_option maxRecDepth 20000 in
theorem w_1185 : Cond.methodLink "FeltedWashModel" (274 : Nat) yX12_degreesItem ∈ gtbl := gt_in (i := 1185) rfl rfl
set_option maxRecDepth 20000 in
theorem w_1187 : Cond.instanceMethod yX12_degreesItem ∈ gtbl := gt_in (i := 1187) rfl rfl
set_option maxRecDepth 20000 in
theorem w_1188 : Cond.code yX12_degreesItem prog_14_method_73_code (1 : Nat) (Option.none : Option FieldType) ∈ gtbl := gt_in (i := 1188) rfl rfl
set_option maxRecDepth 20000 in
theorem w_1189 : Cond.constantLong "FeltedWashModel" (277 : Nat) (687576467 : Int64) ∈ gtbl := gt_in (i := 1189) rfl rfl
set_option maxRecDepth 20000 in
theorem w_1190 : Cond.constantLong "FeltedWashModel" (279 : Nat) (474565 : Int64) ∈ gtbl := gt_in (i := 1190) rfl rfl
set_option maxRecDepth 20000 in
theorem w_1191 : Cond.methodLink "FeltedWashModel" (281 : Nat) yX12_towelItem ∈ gtbl := gt_in (i := 1191) rfl rfl
set_option maxRecDepth 20000 in
theorem w_1193 : Cond.instanceMethod yX12_towelItem ∈ gtbl := gt_in (i := 1193) rfl rfl
set_option maxRecDepth 20000 in
theorem w_1194 : Cond.code yX12_towelItem prog_14_method_75_code (2 : Nat) (Option.none : Option FieldType) ∈ gtbl := gt_in (i := 1194) rfl rfl
set_option maxRecDepth 20000 in
theorem w_1195 : Cond.constantLong "FeltedWashModel" (284 : Nat) (755304 : Int64) ∈ gtbl := gt_in (i := 1195) rfl rfl
set_option maxRecDepth 20000 in
theorem w_1196 : Cond.methodLink "FeltedWashModel" (286 : Nat) yX12_washItem ∈ gtbl := gt_in (i := 1196) rfl rfl
set_option maxRecDepth 20000 in
theorem w_1198 : Cond.instanceMethod yX12_washItem ∈ gtbl := gt_in (i := 1198) rfl rfl
set_option maxRecDepth 20000 in
theorem w_1199 : Cond.code yX12_washItem prog_14_method_74_code (1 : Nat) (Option.none : Option FieldType) ∈ gtbl := gt_in (i := 1199) rfl rfl
set_option maxRecDepth 20000 in
theorem w_1200 : Cond.methodLink "FeltedWashModel" (295 : Nat) yX12_putsBack ∈ gtbl := gt_in (i := 1200) rfl rfl
set_option maxRecDepth 20000 in
theorem w_1202 : Cond.instanceMethod yX12_putsBack ∈ gtbl := gt_in (i := 1202) rfl rfl
set_option maxRecDepth 20000 in
theorem w_1203 : Cond.code yX12_putsBack prog_14_method_5_code (2 : Nat) (Option.none : Option FieldType) ∈ gtbl := gt_in (i := 1203) rfl rfl
set_option maxRecDepth 20000 in
theorem w_1204 : Cond.methodLink "FeltedWashLaw" (116 : Nat) yX12_sheet ∈ gtbl := gt_in (i := 1204) rfl rfl
set_option maxRecDepth 20000 in
theorem w_1205 : Cond.instanceMethod yX12_sheet ∈ gtbl := gt_in (i := 1205) rfl rfl
set_option maxRecDepth 20000 in
theorem w_1206 : Cond.selects "FeltedWashModel" yX12_sheet yX12_sheet ∈ gtbl := gt_in (i := 1206) rfl rfl
set_option maxRecDepth 20000 in
theorem w_1207 : Cond.code yX12_sheet prog_14_method_79_code (5 : Nat) (Option.some FieldType.int) ∈ gtbl := gt_in (i := 1207) rfl rfl
set_option maxRecDepth 20000 in
theorem w_1208 : Cond.methodLink "FeltedWashModel" (300 : Nat) yX12_isOne ∈ gtbl := gt_in (i := 1208) rfl rfl
set_option maxRecDepth 20000 in
theorem w_1209 : Cond.static yX12_isOne ∈ gtbl := gt_in (i := 1209) rfl rfl
set_option maxRecDepth 20000 in
theorem w_1210 : Cond.code yX12_isOne prog_14_method_78_code (1 : Nat) (Option.some FieldType.boolean) ∈ gtbl := gt_in (i := 1210) rfl rfl
set_option maxRecDepth 20000 in
theorem w_1211 : Cond.constantLong "FeltedWashModel" (298 : Nat) (3 : Int64) ∈ gtbl := gt_in (i := 1211) rfl rfl
set_option maxRecDepth 20000 in
theorem w_1212 : Cond.constant "FeltedWashModel" (303 : Nat) (-1000000007 : Int32) ∈ gtbl := gt_in (i := 1212) rfl rfl
set_option maxRecDepth 20000 in
theorem w_1213 : Cond.methodLink "FeltedWashLaw" (123 : Nat) yX12_write ∈ gtbl := gt_in (i := 1213) rfl rfl
set_option maxRecDepth 20000 in
theorem w_1214 : Cond.instanceMethod yX12_write ∈ gtbl := gt_in (i := 1214) rfl rfl
set_option maxRecDepth 20000 in
theorem w_1215 : Cond.selects "FeltedWashModel" yX12_write yX12_write ∈ gtbl := gt_in (i := 1215) rfl rfl
set_option maxRecDepth 20000 in
theorem w_1216 : Cond.code yX12_write prog_14_method_82_code (8 : Nat) (Option.some FieldType.long) ∈ gtbl := gt_in (i := 1216) rfl rfl
set_option maxRecDepth 20000 in
theorem w_1217 : Cond.methodLink "FeltedWashModel" (305 : Nat) yX12_wrongSheet ∈ gtbl := gt_in (i := 1217) rfl rfl
set_option maxRecDepth 20000 in
theorem w_1219 : Cond.instanceMethod yX12_wrongSheet ∈ gtbl := gt_in (i := 1219) rfl rfl
set_option maxRecDepth 20000 in
theorem w_1220 : Cond.code yX12_wrongSheet prog_14_method_81_code (2 : Nat) (Option.some FieldType.int) ∈ gtbl := gt_in (i := 1220) rfl rfl
set_option maxRecDepth 20000 in
theorem w_1221 : Cond.constant "FeltedWashModel" (304 : Nat) (-1000000006 : Int32) ∈ gtbl := gt_in (i := 1221) rfl rfl
set_option maxRecDepth 20000 in
theorem w_1222 : Cond.methodLink "FeltedWashModel" (308 : Nat) yX12_narrowed ∈ gtbl := gt_in (i := 1222) rfl rfl
set_option maxRecDepth 20000 in
theorem w_1223 : Cond.static yX12_narrowed ∈ gtbl := gt_in (i := 1223) rfl rfl
set_option maxRecDepth 20000 in
theorem w_1224 : Cond.code yX12_narrowed prog_14_method_80_code (3 : Nat) (Option.some FieldType.long) ∈ gtbl := gt_in (i := 1224) rfl rfl
set_option maxRecDepth 20000 in
theorem w_1225 : Cond.methodLink "FeltedWashLaw" (128 : Nat) yX12_copy ∈ gtbl := gt_in (i := 1225) rfl rfl
set_option maxRecDepth 20000 in
theorem w_1226 : Cond.instanceMethod yX12_copy ∈ gtbl := gt_in (i := 1226) rfl rfl
set_option maxRecDepth 20000 in
theorem w_1227 : Cond.selects "FeltedWashModel" yX12_copy yX12_copy ∈ gtbl := gt_in (i := 1227) rfl rfl
set_option maxRecDepth 20000 in
theorem w_1228 : Cond.code yX12_copy prog_14_method_83_code (7 : Nat) (Option.some FieldType.int) ∈ gtbl := gt_in (i := 1228) rfl rfl
set_option maxRecDepth 20000 in
theorem w_1229 : Cond.methodLink "FeltedWashLaw" (132 : Nat) yX12_lays ∈ gtbl := gt_in (i := 1229) rfl rfl
set_option maxRecDepth 20000 in
theorem w_1230 : Cond.instanceMethod yX12_lays ∈ gtbl := gt_in (i := 1230) rfl rfl
set_option maxRecDepth 20000 in
theorem w_1231 : Cond.selects "FeltedWashModel" yX12_lays yX12_lays ∈ gtbl := gt_in (i := 1231) rfl rfl
set_option maxRecDepth 20000 in
theorem w_1232 : Cond.code yX12_lays prog_14_method_84_code (6 : Nat) (Option.some FieldType.int) ∈ gtbl := gt_in (i := 1232) rfl rfl
set_option maxRecDepth 20000 in
theorem w_1233 : Cond.methodLink "FeltedWashLaw" (136 : Nat) yX12_book ∈ gtbl := gt_in (i := 1233) rfl rfl
set_option maxRecDepth 20000 in
theorem w_1234 : Cond.instanceMethod yX12_book ∈ gtbl := gt_in (i := 1234) rfl rfl
set_option maxRecDepth 20000 in
theorem w_1235 : Cond.selects "FeltedWashModel" yX12_book yX12_book ∈ gtbl := gt_in (i := 1235) rfl rfl
set_option maxRecDepth 20000 in
theorem w_1236 : Cond.code yX12_book prog_14_method_85_code (5 : Nat) (Option.some FieldType.int) ∈ gtbl := gt_in (i := 1236) rfl rfl
set_option maxRecDepth 20000 in
theorem w_1237 : Cond.methodLink "FeltedWashLaw" (140 : Nat) yX12_read ∈ gtbl := gt_in (i := 1237) rfl rfl
set_option maxRecDepth 20000 in
theorem w_1238 : Cond.instanceMethod yX12_read ∈ gtbl := gt_in (i := 1238) rfl rfl
set_option maxRecDepth 20000 in
theorem w_1239 : Cond.selects "FeltedWashModel" yX12_read yX12_read ∈ gtbl := gt_in (i := 1239) rfl rfl
set_option maxRecDepth 20000 in
theorem w_1240 : Cond.code yX12_read prog_14_method_87_code (6 : Nat) (Option.some FieldType.int) ∈ gtbl := gt_in (i := 1240) rfl rfl
set_option maxRecDepth 20000 in
theorem w_1241 : Cond.methodLink "FeltedWashModel" (312 : Nat) yX12_isBook ∈ gtbl := gt_in (i := 1241) rfl rfl
set_option maxRecDepth 20000 in
theorem w_1243 : Cond.instanceMethod yX12_isBook ∈ gtbl := gt_in (i := 1243) rfl rfl
set_option maxRecDepth 20000 in
theorem w_1244 : Cond.code yX12_isBook prog_14_method_86_code (4 : Nat) (Option.some FieldType.boolean) ∈ gtbl := gt_in (i := 1244) rfl rfl
set_option maxRecDepth 20000 in
theorem w_1245 : Cond.methodLink "FeltedWashLaw" (144 : Nat) yX12_image ∈ gtbl := gt_in (i := 1245) rfl rfl
set_option maxRecDepth 20000 in
theorem w_1246 : Cond.instanceMethod yX12_image ∈ gtbl := gt_in (i := 1246) rfl rfl
set_option maxRecDepth 20000 in
theorem w_1247 : Cond.selects "FeltedWashModel" yX12_image yX12_image ∈ gtbl := gt_in (i := 1247) rfl rfl
set_option maxRecDepth 20000 in
theorem w_1248 : Cond.code yX12_image prog_14_method_88_code (2 : Nat) (Option.some FieldType.int) ∈ gtbl := gt_in (i := 1248) rfl rfl
set_option maxRecDepth 20000 in
theorem w_1249 : Cond.methodLink "FeltedWashLaw" (148 : Nat) yX12_undo ∈ gtbl := gt_in (i := 1249) rfl rfl
set_option maxRecDepth 20000 in
theorem w_1250 : Cond.instanceMethod yX12_undo ∈ gtbl := gt_in (i := 1250) rfl rfl
set_option maxRecDepth 20000 in
theorem w_1251 : Cond.selects "FeltedWashModel" yX12_undo yX12_undo ∈ gtbl := gt_in (i := 1251) rfl rfl
set_option maxRecDepth 20000 in
theorem w_1252 : Cond.code yX12_undo prog_14_method_89_code (2 : Nat) (Option.some FieldType.int) ∈ gtbl := gt_in (i := 1252) rfl rfl
set_option maxRecDepth 20000 in
theorem w_1253 : Cond.methodLink "FeltedWashLaw" (152 : Nat) yX12_tear ∈ gtbl := gt_in (i := 1253) rfl rfl
set_option maxRecDepth 20000 in
theorem w_1254 : Cond.instanceMethod yX12_tear ∈ gtbl := gt_in (i := 1254) rfl rfl
set_option maxRecDepth 20000 in
theorem w_1255 : Cond.selects "FeltedWashModel" yX12_tear yX12_tear ∈ gtbl := gt_in (i := 1255) rfl rfl
set_option maxRecDepth 20000 in
theorem w_1256 : Cond.code yX12_tear prog_14_method_90_code (2 : Nat) (Option.some FieldType.int) ∈ gtbl := gt_in (i := 1256) rfl rfl
set_option maxRecDepth 20000 in
theorem w_1257 : Cond.methodLink "FeltedWashLaw" (156 : Nat) yX12_count ∈ gtbl := gt_in (i := 1257) rfl rfl
set_option maxRecDepth 20000 in
theorem w_1258 : Cond.instanceMethod yX12_count ∈ gtbl := gt_in (i := 1258) rfl rfl
set_option maxRecDepth 20000 in
theorem w_1259 : Cond.selects "FeltedWashModel" yX12_count yX12_count ∈ gtbl := gt_in (i := 1259) rfl rfl
set_option maxRecDepth 20000 in
theorem w_1260 : Cond.code yX12_count prog_14_method_92_code (2 : Nat) (Option.some FieldType.int) ∈ gtbl := gt_in (i := 1260) rfl rfl
set_option maxRecDepth 20000 in
theorem w_1261 : Cond.methodLink "FeltedWashModel" (318 : Nat) yX12_holes ∈ gtbl := gt_in (i := 1261) rfl rfl
set_option maxRecDepth 20000 in
theorem w_1263 : Cond.instanceMethod yX12_holes ∈ gtbl := gt_in (i := 1263) rfl rfl
set_option maxRecDepth 20000 in
theorem w_1264 : Cond.code yX12_holes prog_14_method_91_code (3 : Nat) (Option.some FieldType.int) ∈ gtbl := gt_in (i := 1264) rfl rfl
set_option maxRecDepth 20000 in
theorem w_1265 : Cond.methodLink "FeltedWashLaw" (160 : Nat) yX12_status ∈ gtbl := gt_in (i := 1265) rfl rfl
set_option maxRecDepth 20000 in
theorem w_1266 : Cond.instanceMethod yX12_status ∈ gtbl := gt_in (i := 1266) rfl rfl
set_option maxRecDepth 20000 in
theorem w_1267 : Cond.selects "FeltedWashModel" yX12_status yX12_status ∈ gtbl := gt_in (i := 1267) rfl rfl
set_option maxRecDepth 20000 in
theorem w_1268 : Cond.code yX12_status prog_14_method_93_code (4 : Nat) (Option.some FieldType.int) ∈ gtbl := gt_in (i := 1268) rfl rfl
set_option maxRecDepth 20000 in
theorem w_1269 : Cond.constantLong "FeltedWashModel" (321 : Nat) (-1 : Int64) ∈ gtbl := gt_in (i := 1269) rfl rfl
set_option maxRecDepth 20000 in
theorem w_1270 : Cond.constantLong "FeltedWashModel" (323 : Nat) (6 : Int64) ∈ gtbl := gt_in (i := 1270) rfl rfl
set_option maxRecDepth 20000 in
theorem w_1271 : Cond.constantLong "FeltedWashLaw" (117 : Nat) (4294967295 : Int64) ∈ gtbl := gt_in (i := 1271) rfl rfl
set_option maxRecDepth 20000 in
theorem w_1272 : Cond.sameMethod "FeltedWash$Wool" "FeltedWash$Wool" "shrinks" "(II)I" ∈ gtbl := gt_in (i := 1272) rfl rfl
set_option maxRecDepth 20000 in
theorem w_1273 : Cond.sameMethod "FeltedWash$Cotton" "FeltedWash$Cotton" "shrinks" "(II)I" ∈ gtbl := gt_in (i := 1273) rfl rfl
set_option maxRecDepth 20000 in
theorem w_1274 : Cond.sameMethod "FeltedWash$Wool" "FeltedWash$Wool" "felts" "(I)I" ∈ gtbl := gt_in (i := 1274) rfl rfl
set_option maxRecDepth 20000 in
theorem w_1275 : Cond.sameMethod "FeltedWash$Wool" "FeltedWash$Wool" "bears" "(II)I" ∈ gtbl := gt_in (i := 1275) rfl rfl
set_option maxRecDepth 20000 in
theorem w_1276 : Cond.sameMethod "FeltedWash$Cotton" "FeltedWash$Cotton" "bears" "(II)I" ∈ gtbl := gt_in (i := 1276) rfl rfl
theorem ws_0 : Cond.selects RX11 yX11_refuse yX11_refuse ∈ gtbl := gt_sel (q := (yX11_refuse, 0)) (List.mem_of_getElem? (i := 0) rfl) rfl
theorem ws_1 : Cond.selects RX2 yX2_dryOneDay yX2_dryOneDay ∈ gtbl := gt_sel (q := (yX2_dryOneDay, 0)) (List.mem_of_getElem? (i := 1) rfl) rfl
theorem ws_2 : Cond.selects RX11 yX11_tryWashes yX11_tryWashes ∈ gtbl := gt_sel (q := (yX11_tryWashes, 0)) (List.mem_of_getElem? (i := 2) rfl) rfl
theorem ws_3 : Cond.selects RX11 yX11_wouldSuit yX11_wouldSuit ∈ gtbl := gt_sel (q := (yX11_wouldSuit, 0)) (List.mem_of_getElem? (i := 3) rfl) rfl
theorem ws_4 : Cond.selects RX11 yX11_tryAs yX11_tryAs ∈ gtbl := gt_sel (q := (yX11_tryAs, 0)) (List.mem_of_getElem? (i := 4) rfl) rfl
theorem ws_5 : Cond.selects RX9 yX9_nextToken yX9_nextToken ∈ gtbl := gt_sel (q := (yX9_nextToken, 0)) (List.mem_of_getElem? (i := 5) rfl) rfl
theorem ws_6 : Cond.selects RX9 yX9_byteAt yX9_byteAt ∈ gtbl := gt_sel (q := (yX9_byteAt, 0)) (List.mem_of_getElem? (i := 6) rfl) rfl
theorem ws_7 : Cond.selects RX9 yX9_takeItem yX9_takeItem ∈ gtbl := gt_sel (q := (yX9_takeItem, 0)) (List.mem_of_getElem? (i := 7) rfl) rfl
theorem ws_8 : Cond.selects RX9 yX9_kindNamed yX9_kindNamed ∈ gtbl := gt_sel (q := (yX9_kindNamed, 0)) (List.mem_of_getElem? (i := 8) rfl) rfl
theorem ws_9 : Cond.selects RX9 yX9_isWord yX9_isWord ∈ gtbl := gt_sel (q := (yX9_isWord, 0)) (List.mem_of_getElem? (i := 9) rfl) rfl
theorem ws_10 : Cond.selects RX9 yX9_takeSpans yX9_takeSpans ∈ gtbl := gt_sel (q := (yX9_takeSpans, 0)) (List.mem_of_getElem? (i := 10) rfl) rfl
theorem ws_11 : Cond.selects RX9 yX9_takeTwoSpans yX9_takeTwoSpans ∈ gtbl := gt_sel (q := (yX9_takeTwoSpans, 0)) (List.mem_of_getElem? (i := 11) rfl) rfl
theorem ws_12 : Cond.selects RX9 yX9_isNumber yX9_isNumber ∈ gtbl := gt_sel (q := (yX9_isNumber, 0)) (List.mem_of_getElem? (i := 12) rfl) rfl
theorem ws_13 : Cond.selects RX9 yX9_takeThickness yX9_takeThickness ∈ gtbl := gt_sel (q := (yX9_takeThickness, 0)) (List.mem_of_getElem? (i := 13) rfl) rfl
theorem ws_14 : Cond.selects RX9 yX9_takePerson yX9_takePerson ∈ gtbl := gt_sel (q := (yX9_takePerson, 0)) (List.mem_of_getElem? (i := 14) rfl) rfl
theorem ws_15 : Cond.selects RX9 yX9_takeDegrees yX9_takeDegrees ∈ gtbl := gt_sel (q := (yX9_takeDegrees, 0)) (List.mem_of_getElem? (i := 15) rfl) rfl
theorem ws_16 : Cond.selects RX9 yX9_takeWash yX9_takeWash ∈ gtbl := gt_sel (q := (yX9_takeWash, 0)) (List.mem_of_getElem? (i := 16) rfl) rfl
theorem ws_17 : Cond.selects RX11 yX11_sheetAt yX11_sheetAt ∈ gtbl := gt_sel (q := (yX11_sheetAt, 0)) (List.mem_of_getElem? (i := 17) rfl) rfl
theorem ws_18 : Cond.selects RX6 yX6_lowestBits yX6_lowestBits ∈ gtbl := gt_sel (q := (yX6_lowestBits, 0)) (List.mem_of_getElem? (i := 18) rfl) rfl
theorem ws_19 : Cond.selects RX11 yX11_explains yX11_explains ∈ gtbl := gt_sel (q := (yX11_explains, 0)) (List.mem_of_getElem? (i := 19) rfl) rfl
theorem ws_20 : Cond.selects RX12 yX12_becomes yX12_becomes ∈ gtbl := gt_sel (q := (yX12_becomes, 0)) (List.mem_of_getElem? (i := 20) rfl) rfl
theorem ws_21 : Cond.selects RX12 yX12_finds yX12_finds ∈ gtbl := gt_sel (q := (yX12_finds, 0)) (List.mem_of_getElem? (i := 21) rfl) rfl
theorem ws_22 : Cond.selects RX12 yX12_wetOnes yX12_wetOnes ∈ gtbl := gt_sel (q := (yX12_wetOnes, 0)) (List.mem_of_getElem? (i := 22) rfl) rfl
theorem ws_23 : Cond.selects RX12 yX12_its yX12_its ∈ gtbl := gt_sel (q := (yX12_its, 0)) (List.mem_of_getElem? (i := 23) rfl) rfl
theorem ws_24 : Cond.selects RX12 yX12_holedOnes yX12_holedOnes ∈ gtbl := gt_sel (q := (yX12_holedOnes, 0)) (List.mem_of_getElem? (i := 24) rfl) rfl
theorem ws_25 : Cond.selects RX12 yX12_fittingAny yX12_fittingAny ∈ gtbl := gt_sel (q := (yX12_fittingAny, 0)) (List.mem_of_getElem? (i := 25) rfl) rfl
theorem ws_26 : Cond.selects RX12 yX12_fittingOnes yX12_fittingOnes ∈ gtbl := gt_sel (q := (yX12_fittingOnes, 0)) (List.mem_of_getElem? (i := 26) rfl) rfl
theorem ws_27 : Cond.selects RX12 yX12_isFitting yX12_isFitting ∈ gtbl := gt_sel (q := (yX12_isFitting, 0)) (List.mem_of_getElem? (i := 27) rfl) rfl
theorem ws_28 : Cond.selects RX12 yX12_sizeOfOne yX12_sizeOfOne ∈ gtbl := gt_sel (q := (yX12_sizeOfOne, 0)) (List.mem_of_getElem? (i := 28) rfl) rfl
theorem ws_29 : Cond.selects RX12 yX12_adds yX12_adds ∈ gtbl := gt_sel (q := (yX12_adds, 0)) (List.mem_of_getElem? (i := 29) rfl) rfl
theorem ws_30 : Cond.selects RX12 yX12_isGarment yX12_isGarment ∈ gtbl := gt_sel (q := (yX12_isGarment, 0)) (List.mem_of_getElem? (i := 30) rfl) rfl
theorem ws_31 : Cond.selects RX12 yX12_shrinksOf yX12_shrinksOf ∈ gtbl := gt_sel (q := (yX12_shrinksOf, 0)) (List.mem_of_getElem? (i := 31) rfl) rfl
theorem ws_32 : Cond.selects RX12 yX12_feltsOf yX12_feltsOf ∈ gtbl := gt_sel (q := (yX12_feltsOf, 0)) (List.mem_of_getElem? (i := 32) rfl) rfl
theorem ws_33 : Cond.selects RX12 yX12_bearsOf yX12_bearsOf ∈ gtbl := gt_sel (q := (yX12_bearsOf, 0)) (List.mem_of_getElem? (i := 33) rfl) rfl
theorem ws_34 : Cond.selects RX12 yX12_keepsOf yX12_keepsOf ∈ gtbl := gt_sel (q := (yX12_keepsOf, 0)) (List.mem_of_getElem? (i := 34) rfl) rfl
theorem ws_35 : Cond.selects RX12 yX12_washed yX12_washed ∈ gtbl := gt_sel (q := (yX12_washed, 0)) (List.mem_of_getElem? (i := 35) rfl) rfl
theorem ws_36 : Cond.selects RX12 yX12_shrinks yX12_shrinks ∈ gtbl := gt_sel (q := (yX12_shrinks, 0)) (List.mem_of_getElem? (i := 36) rfl) rfl
theorem ws_37 : Cond.selects RX12 yX12_drawn yX12_drawn ∈ gtbl := gt_sel (q := (yX12_drawn, 0)) (List.mem_of_getElem? (i := 37) rfl) rfl
theorem ws_38 : Cond.selects RX12 yX12_addsPerson yX12_addsPerson ∈ gtbl := gt_sel (q := (yX12_addsPerson, 0)) (List.mem_of_getElem? (i := 38) rfl) rfl
theorem ws_39 : Cond.selects RX12 yX12_isPerson yX12_isPerson ∈ gtbl := gt_sel (q := (yX12_isPerson, 0)) (List.mem_of_getElem? (i := 39) rfl) rfl
theorem ws_40 : Cond.selects RX12 yX12_daysGo yX12_daysGo ∈ gtbl := gt_sel (q := (yX12_daysGo, 0)) (List.mem_of_getElem? (i := 40) rfl) rfl
theorem ws_41 : Cond.selects RX12 yX12_dries yX12_dries ∈ gtbl := gt_sel (q := (yX12_dries, 0)) (List.mem_of_getElem? (i := 41) rfl) rfl
theorem ws_42 : Cond.selects RX12 yX12_laysAside yX12_laysAside ∈ gtbl := gt_sel (q := (yX12_laysAside, 0)) (List.mem_of_getElem? (i := 42) rfl) rfl
theorem ws_43 : Cond.selects RX12 yX12_takesBack yX12_takesBack ∈ gtbl := gt_sel (q := (yX12_takesBack, 0)) (List.mem_of_getElem? (i := 43) rfl) rfl
theorem ws_44 : Cond.selects RX12 yX12_washedTo yX12_washedTo ∈ gtbl := gt_sel (q := (yX12_washedTo, 0)) (List.mem_of_getElem? (i := 44) rfl) rfl
theorem ws_45 : Cond.selects RX12 yX12_isWashed yX12_isWashed ∈ gtbl := gt_sel (q := (yX12_isWashed, 0)) (List.mem_of_getElem? (i := 45) rfl) rfl
theorem ws_46 : Cond.selects RX12 yX12_isFittingBy yX12_isFittingBy ∈ gtbl := gt_sel (q := (yX12_isFittingBy, 0)) (List.mem_of_getElem? (i := 46) rfl) rfl
theorem ws_47 : Cond.selects RX12 yX12_manyFitting yX12_manyFitting ∈ gtbl := gt_sel (q := (yX12_manyFitting, 0)) (List.mem_of_getElem? (i := 47) rfl) rfl
theorem ws_48 : Cond.selects RX12 yX12_saves yX12_saves ∈ gtbl := gt_sel (q := (yX12_saves, 0)) (List.mem_of_getElem? (i := 48) rfl) rfl
theorem ws_49 : Cond.selects RX12 yX12_token yX12_token ∈ gtbl := gt_sel (q := (yX12_token, 0)) (List.mem_of_getElem? (i := 49) rfl) rfl
theorem ws_50 : Cond.selects RX12 yX12_byteAt yX12_byteAt ∈ gtbl := gt_sel (q := (yX12_byteAt, 0)) (List.mem_of_getElem? (i := 50) rfl) rfl
theorem ws_51 : Cond.selects RX12 yX12_item yX12_item ∈ gtbl := gt_sel (q := (yX12_item, 0)) (List.mem_of_getElem? (i := 51) rfl) rfl
theorem ws_52 : Cond.selects RX12 yX12_kindHere yX12_kindHere ∈ gtbl := gt_sel (q := (yX12_kindHere, 0)) (List.mem_of_getElem? (i := 52) rfl) rfl
theorem ws_53 : Cond.selects RX12 yX12_word yX12_word ∈ gtbl := gt_sel (q := (yX12_word, 0)) (List.mem_of_getElem? (i := 53) rfl) rfl
theorem ws_54 : Cond.selects RX12 yX12_garmentItem yX12_garmentItem ∈ gtbl := gt_sel (q := (yX12_garmentItem, 0)) (List.mem_of_getElem? (i := 54) rfl) rfl
theorem ws_55 : Cond.selects RX12 yX12_must yX12_must ∈ gtbl := gt_sel (q := (yX12_must, 0)) (List.mem_of_getElem? (i := 55) rfl) rfl
theorem ws_56 : Cond.selects RX12 yX12_number yX12_number ∈ gtbl := gt_sel (q := (yX12_number, 0)) (List.mem_of_getElem? (i := 56) rfl) rfl
theorem ws_57 : Cond.selects RX12 yX12_personItem yX12_personItem ∈ gtbl := gt_sel (q := (yX12_personItem, 0)) (List.mem_of_getElem? (i := 57) rfl) rfl
theorem ws_58 : Cond.selects RX12 yX12_degreesItem yX12_degreesItem ∈ gtbl := gt_sel (q := (yX12_degreesItem, 0)) (List.mem_of_getElem? (i := 58) rfl) rfl
theorem ws_59 : Cond.selects RX12 yX12_towelItem yX12_towelItem ∈ gtbl := gt_sel (q := (yX12_towelItem, 0)) (List.mem_of_getElem? (i := 59) rfl) rfl
theorem ws_60 : Cond.selects RX12 yX12_washItem yX12_washItem ∈ gtbl := gt_sel (q := (yX12_washItem, 0)) (List.mem_of_getElem? (i := 60) rfl) rfl
theorem ws_61 : Cond.selects RX12 yX12_putsBack yX12_putsBack ∈ gtbl := gt_sel (q := (yX12_putsBack, 0)) (List.mem_of_getElem? (i := 61) rfl) rfl
theorem ws_62 : Cond.selects RX12 yX12_wrongSheet yX12_wrongSheet ∈ gtbl := gt_sel (q := (yX12_wrongSheet, 0)) (List.mem_of_getElem? (i := 62) rfl) rfl
theorem ws_63 : Cond.selects RX12 yX12_isBook yX12_isBook ∈ gtbl := gt_sel (q := (yX12_isBook, 0)) (List.mem_of_getElem? (i := 63) rfl) rfl
theorem ws_64 : Cond.selects RX12 yX12_holes yX12_holes ∈ gtbl := gt_sel (q := (yX12_holes, 0)) (List.mem_of_getElem? (i := 64) rfl) rfl
theorem ck_0 : CKp 0 RX0 TX0 8 tyX0 := ⟨rfl, by
  show ∀ w ∈ [u_lay RX0 TX0 0, u_lay RX0 TX0 1, u_lay RX0 TX0 2, u_lay RX0 TX0 3, u_lay RX0 TX0 4, u_lay RX0 TX0 5, u_lay RX0 TX0 6, u_lay RX0 TX0 7], w ∈ gtbl
  exact List.forall_mem_cons.mpr ⟨w_173, List.forall_mem_cons.mpr ⟨w_175, List.forall_mem_cons.mpr ⟨w_177, List.forall_mem_cons.mpr ⟨w_179, List.forall_mem_cons.mpr ⟨w_181, List.forall_mem_cons.mpr ⟨w_183, List.forall_mem_cons.mpr ⟨w_185, List.forall_mem_cons.mpr ⟨w_187, fun _ h => absurd h List.not_mem_nil⟩⟩⟩⟩⟩⟩⟩⟩, tyX0_ok, nmX0⟩
theorem ck_1 : CKp 1 RX1 TX1 2 tyX1 := ⟨rfl, by
  show ∀ w ∈ [u_lay RX1 TX1 0, u_lay RX1 TX1 1], w ∈ gtbl
  exact List.forall_mem_cons.mpr ⟨w_61, List.forall_mem_cons.mpr ⟨w_62, fun _ h => absurd h List.not_mem_nil⟩⟩, tyX1_ok, nmX1⟩
theorem ck_2 : CKp 2 RX2 TX2 7 tyX2 := ⟨rfl, by
  show ∀ w ∈ [u_lay RX2 TX2 0, u_lay RX2 TX2 1, u_lay RX2 TX2 2, u_lay RX2 TX2 3, u_lay RX2 TX2 4, u_lay RX2 TX2 5, u_lay RX2 TX2 6], w ∈ gtbl
  exact List.forall_mem_cons.mpr ⟨w_124, List.forall_mem_cons.mpr ⟨w_126, List.forall_mem_cons.mpr ⟨w_128, List.forall_mem_cons.mpr ⟨w_130, List.forall_mem_cons.mpr ⟨w_132, List.forall_mem_cons.mpr ⟨w_134, List.forall_mem_cons.mpr ⟨w_136, fun _ h => absurd h List.not_mem_nil⟩⟩⟩⟩⟩⟩⟩, tyX2_ok, nmX2⟩
theorem ck_3 : CKp 3 RX3 TX3 2 tyX3 := ⟨rfl, by
  show ∀ w ∈ [u_lay RX3 TX3 0, u_lay RX3 TX3 1], w ∈ gtbl
  exact List.forall_mem_cons.mpr ⟨w_80, List.forall_mem_cons.mpr ⟨w_81, fun _ h => absurd h List.not_mem_nil⟩⟩, tyX3_ok, nmX3⟩
theorem ck_4 : CKp 4 RX4 TX4 2 tyX4 := ⟨rfl, by
  show ∀ w ∈ [u_lay RX4 TX4 0, u_lay RX4 TX4 1], w ∈ gtbl
  exact List.forall_mem_cons.mpr ⟨w_41, List.forall_mem_cons.mpr ⟨w_43, fun _ h => absurd h List.not_mem_nil⟩⟩, tyX4_ok, nmX4⟩
theorem ck_5 : CKp 5 RX5 TX5 2 tyX5 := ⟨rfl, by
  show ∀ w ∈ [u_lay RX5 TX5 0, u_lay RX5 TX5 1], w ∈ gtbl
  exact List.forall_mem_cons.mpr ⟨w_152, List.forall_mem_cons.mpr ⟨w_154, fun _ h => absurd h List.not_mem_nil⟩⟩, tyX5_ok, nmX5⟩
theorem ck_6 : CKp 6 RX6 TX6 3 tyX6 := ⟨rfl, by
  show ∀ w ∈ [u_lay RX6 TX6 0, u_lay RX6 TX6 1, u_lay RX6 TX6 2], w ∈ gtbl
  exact List.forall_mem_cons.mpr ⟨w_238, List.forall_mem_cons.mpr ⟨w_240, List.forall_mem_cons.mpr ⟨w_242, fun _ h => absurd h List.not_mem_nil⟩⟩⟩, tyX6_ok, nmX6⟩
theorem ck_7 : CKp 7 RX7 TX7 2 tyX7 := ⟨rfl, by
  show ∀ w ∈ [u_lay RX7 TX7 0, u_lay RX7 TX7 1], w ∈ gtbl
  exact List.forall_mem_cons.mpr ⟨w_70, List.forall_mem_cons.mpr ⟨w_71, fun _ h => absurd h List.not_mem_nil⟩⟩, tyX7_ok, nmX7⟩
theorem ck_8 : CKp 8 RX8 TX8 2 tyX8 := ⟨rfl, by
  show ∀ w ∈ [u_lay RX8 TX8 0, u_lay RX8 TX8 1], w ∈ gtbl
  exact List.forall_mem_cons.mpr ⟨w_89, List.forall_mem_cons.mpr ⟨w_90, fun _ h => absurd h List.not_mem_nil⟩⟩, tyX8_ok, nmX8⟩
theorem ck_9 : CKp 9 RX9 TX9 8 tyX9 := ⟨rfl, by
  show ∀ w ∈ [u_lay RX9 TX9 0, u_lay RX9 TX9 1, u_lay RX9 TX9 2, u_lay RX9 TX9 3, u_lay RX9 TX9 4, u_lay RX9 TX9 5, u_lay RX9 TX9 6, u_lay RX9 TX9 7], w ∈ gtbl
  exact List.forall_mem_cons.mpr ⟨w_207, List.forall_mem_cons.mpr ⟨w_209, List.forall_mem_cons.mpr ⟨w_211, List.forall_mem_cons.mpr ⟨w_213, List.forall_mem_cons.mpr ⟨w_215, List.forall_mem_cons.mpr ⟨w_217, List.forall_mem_cons.mpr ⟨w_219, List.forall_mem_cons.mpr ⟨w_221, fun _ h => absurd h List.not_mem_nil⟩⟩⟩⟩⟩⟩⟩⟩, tyX9_ok, nmX9⟩
theorem ck_10 : CKp 10 RX10 TX10 2 tyX10 := ⟨rfl, by
  show ∀ w ∈ [u_lay RX10 TX10 0, u_lay RX10 TX10 1], w ∈ gtbl
  exact List.forall_mem_cons.mpr ⟨w_52, List.forall_mem_cons.mpr ⟨w_53, fun _ h => absurd h List.not_mem_nil⟩⟩, tyX10_ok, nmX10⟩
theorem ck_11 : CKp 11 RX11 TX11 8 tyX11 := ⟨rfl, by
  show ∀ w ∈ [u_lay RX11 TX11 0, u_lay RX11 TX11 1, u_lay RX11 TX11 2, u_lay RX11 TX11 3, u_lay RX11 TX11 4, u_lay RX11 TX11 5, u_lay RX11 TX11 6, u_lay RX11 TX11 7], w ∈ gtbl
  exact List.forall_mem_cons.mpr ⟨w_254, List.forall_mem_cons.mpr ⟨w_256, List.forall_mem_cons.mpr ⟨w_258, List.forall_mem_cons.mpr ⟨w_260, List.forall_mem_cons.mpr ⟨w_262, List.forall_mem_cons.mpr ⟨w_264, List.forall_mem_cons.mpr ⟨w_266, List.forall_mem_cons.mpr ⟨w_268, fun _ h => absurd h List.not_mem_nil⟩⟩⟩⟩⟩⟩⟩⟩, tyX11_ok, nmX11⟩
theorem ck_12 : CKp 12 RX12 TX12 16 tyX12 := ⟨rfl, by
  show ∀ w ∈ [u_lay RX12 TX12 0, u_lay RX12 TX12 1, u_lay RX12 TX12 2, u_lay RX12 TX12 3, u_lay RX12 TX12 4, u_lay RX12 TX12 5, u_lay RX12 TX12 6, u_lay RX12 TX12 7, u_lay RX12 TX12 8, u_lay RX12 TX12 9, u_lay RX12 TX12 10, u_lay RX12 TX12 11, u_lay RX12 TX12 12, u_lay RX12 TX12 13, u_lay RX12 TX12 14, u_lay RX12 TX12 15], w ∈ gtbl
  exact List.forall_mem_cons.mpr ⟨w_839, List.forall_mem_cons.mpr ⟨w_841, List.forall_mem_cons.mpr ⟨w_843, List.forall_mem_cons.mpr ⟨w_845, List.forall_mem_cons.mpr ⟨w_847, List.forall_mem_cons.mpr ⟨w_849, List.forall_mem_cons.mpr ⟨w_851, List.forall_mem_cons.mpr ⟨w_853, List.forall_mem_cons.mpr ⟨w_855, List.forall_mem_cons.mpr ⟨w_857, List.forall_mem_cons.mpr ⟨w_859, List.forall_mem_cons.mpr ⟨w_861, List.forall_mem_cons.mpr ⟨w_863, List.forall_mem_cons.mpr ⟨w_865, List.forall_mem_cons.mpr ⟨w_867, List.forall_mem_cons.mpr ⟨w_869, fun _ h => absurd h List.not_mem_nil⟩⟩⟩⟩⟩⟩⟩⟩⟩⟩⟩⟩⟩⟩⟩⟩, tyX12_ok, nmX12⟩
theorem fgX4_9_1 : FG RX4 9 1 0 := ⟨RX1, TX1, 2, tyX1, ck_1, by decide, w_38⟩
theorem ffX4_9_1 : FF RX4 9 1 0 (tyX1 0) := ⟨RX1, TX1, 2, tyX1, ck_1, by decide, w_38, rfl, rfl, rfl⟩
theorem fgX4_9_3 : FG RX4 9 3 0 := ⟨RX3, TX3, 2, tyX3, ck_3, by decide, w_38⟩
theorem ffX4_9_3 : FF RX4 9 3 0 (tyX3 0) := ⟨RX3, TX3, 2, tyX3, ck_3, by decide, w_38, rfl, rfl, rfl⟩
theorem fgX4_9_4 : FG RX4 9 4 0 := ⟨RX4, TX4, 2, tyX4, ck_4, by decide, w_38⟩
theorem ffX4_9_4 : FF RX4 9 4 0 (tyX4 0) := ⟨RX4, TX4, 2, tyX4, ck_4, by decide, w_38, rfl, rfl, rfl⟩
theorem fgX4_9_7 : FG RX4 9 7 0 := ⟨RX7, TX7, 2, tyX7, ck_7, by decide, w_38⟩
theorem ffX4_9_7 : FF RX4 9 7 0 (tyX7 0) := ⟨RX7, TX7, 2, tyX7, ck_7, by decide, w_38, rfl, rfl, rfl⟩
theorem fgX4_9_8 : FG RX4 9 8 0 := ⟨RX8, TX8, 2, tyX8, ck_8, by decide, w_38⟩
theorem ffX4_9_8 : FF RX4 9 8 0 (tyX8 0) := ⟨RX8, TX8, 2, tyX8, ck_8, by decide, w_38, rfl, rfl, rfl⟩
theorem fgX4_9_10 : FG RX4 9 10 0 := ⟨RX10, TX10, 2, tyX10, ck_10, by decide, w_38⟩
theorem ffX4_9_10 : FF RX4 9 10 0 (tyX10 0) := ⟨RX10, TX10, 2, tyX10, ck_10, by decide, w_38, rfl, rfl, rfl⟩
theorem fgX11_113_1 : FG RX11 113 1 0 := ⟨RX1, TX1, 2, tyX1, ck_1, by decide, w_39⟩
theorem fgX11_113_3 : FG RX11 113 3 0 := ⟨RX3, TX3, 2, tyX3, ck_3, by decide, w_39⟩
theorem fgX11_113_4 : FG RX11 113 4 0 := ⟨RX4, TX4, 2, tyX4, ck_4, by decide, w_39⟩
theorem fgX11_113_7 : FG RX11 113 7 0 := ⟨RX7, TX7, 2, tyX7, ck_7, by decide, w_39⟩
theorem fgX11_113_8 : FG RX11 113 8 0 := ⟨RX8, TX8, 2, tyX8, ck_8, by decide, w_39⟩
theorem fgX11_113_10 : FG RX11 113 10 0 := ⟨RX10, TX10, 2, tyX10, ck_10, by decide, w_39⟩
theorem fgX4_15_1 : FG RX4 15 1 1 := ⟨RX1, TX1, 2, tyX1, ck_1, by decide, w_40⟩
theorem ffX4_15_1 : FF RX4 15 1 1 (tyX1 1) := ⟨RX1, TX1, 2, tyX1, ck_1, by decide, w_40, rfl, rfl, rfl⟩
theorem fgX4_15_3 : FG RX4 15 3 1 := ⟨RX3, TX3, 2, tyX3, ck_3, by decide, w_40⟩
theorem ffX4_15_3 : FF RX4 15 3 1 (tyX3 1) := ⟨RX3, TX3, 2, tyX3, ck_3, by decide, w_40, rfl, rfl, rfl⟩
theorem fgX4_15_4 : FG RX4 15 4 1 := ⟨RX4, TX4, 2, tyX4, ck_4, by decide, w_40⟩
theorem ffX4_15_4 : FF RX4 15 4 1 (tyX4 1) := ⟨RX4, TX4, 2, tyX4, ck_4, by decide, w_40, rfl, rfl, rfl⟩
theorem fgX4_15_7 : FG RX4 15 7 1 := ⟨RX7, TX7, 2, tyX7, ck_7, by decide, w_40⟩
theorem ffX4_15_7 : FF RX4 15 7 1 (tyX7 1) := ⟨RX7, TX7, 2, tyX7, ck_7, by decide, w_40, rfl, rfl, rfl⟩
theorem fgX4_15_8 : FG RX4 15 8 1 := ⟨RX8, TX8, 2, tyX8, ck_8, by decide, w_40⟩
theorem ffX4_15_8 : FF RX4 15 8 1 (tyX8 1) := ⟨RX8, TX8, 2, tyX8, ck_8, by decide, w_40, rfl, rfl, rfl⟩
theorem fgX4_15_10 : FG RX4 15 10 1 := ⟨RX10, TX10, 2, tyX10, ck_10, by decide, w_40⟩
theorem ffX4_15_10 : FF RX4 15 10 1 (tyX10 1) := ⟨RX10, TX10, 2, tyX10, ck_10, by decide, w_40, rfl, rfl, rfl⟩
theorem fgX2_9 : FG RX2 9 2 0 := ⟨RX2, TX2, 7, tyX2, ck_2, by decide, w_105⟩
theorem fpX2_9 : FP RX2 9 2 0 (tyX2 0) := ⟨RX2, TX2, 7, tyX2, ck_2, by decide, w_105, rfl, rfl⟩
theorem fgX11_105 : FG RX11 105 2 0 := ⟨RX2, TX2, 7, tyX2, ck_2, by decide, w_106⟩
theorem fpX11_105 : FP RX11 105 2 0 (tyX2 0) := ⟨RX2, TX2, 7, tyX2, ck_2, by decide, w_106, rfl, rfl⟩
theorem fgX2_15 : FG RX2 15 2 1 := ⟨RX2, TX2, 7, tyX2, ck_2, by decide, w_107⟩
theorem fpX2_15 : FP RX2 15 2 1 (tyX2 1) := ⟨RX2, TX2, 7, tyX2, ck_2, by decide, w_107, rfl, rfl⟩
theorem fgX11_116 : FG RX11 116 2 1 := ⟨RX2, TX2, 7, tyX2, ck_2, by decide, w_108⟩
theorem fpX11_116 : FP RX11 116 2 1 (tyX2 1) := ⟨RX2, TX2, 7, tyX2, ck_2, by decide, w_108, rfl, rfl⟩
theorem fgX9_98 : FG RX9 98 2 1 := ⟨RX2, TX2, 7, tyX2, ck_2, by decide, w_109⟩
theorem fpX9_98 : FP RX9 98 2 1 (tyX2 1) := ⟨RX2, TX2, 7, tyX2, ck_2, by decide, w_109, rfl, rfl⟩
theorem fgX2_19 : FG RX2 19 2 2 := ⟨RX2, TX2, 7, tyX2, ck_2, by decide, w_110⟩
theorem fpX2_19 : FP RX2 19 2 2 (tyX2 2) := ⟨RX2, TX2, 7, tyX2, ck_2, by decide, w_110, rfl, rfl⟩
theorem fgX11_119 : FG RX11 119 2 2 := ⟨RX2, TX2, 7, tyX2, ck_2, by decide, w_111⟩
theorem fpX11_119 : FP RX11 119 2 2 (tyX2 2) := ⟨RX2, TX2, 7, tyX2, ck_2, by decide, w_111, rfl, rfl⟩
theorem fgX9_106 : FG RX9 106 2 2 := ⟨RX2, TX2, 7, tyX2, ck_2, by decide, w_112⟩
theorem fpX9_106 : FP RX9 106 2 2 (tyX2 2) := ⟨RX2, TX2, 7, tyX2, ck_2, by decide, w_112, rfl, rfl⟩
theorem fgX2_22 : FG RX2 22 2 3 := ⟨RX2, TX2, 7, tyX2, ck_2, by decide, w_113⟩
theorem fpX2_22 : FP RX2 22 2 3 (tyX2 3) := ⟨RX2, TX2, 7, tyX2, ck_2, by decide, w_113, rfl, rfl⟩
theorem fgX11_122 : FG RX11 122 2 3 := ⟨RX2, TX2, 7, tyX2, ck_2, by decide, w_114⟩
theorem fpX11_122 : FP RX11 122 2 3 (tyX2 3) := ⟨RX2, TX2, 7, tyX2, ck_2, by decide, w_114, rfl, rfl⟩
theorem fgX9_118 : FG RX9 118 2 3 := ⟨RX2, TX2, 7, tyX2, ck_2, by decide, w_115⟩
theorem fpX9_118 : FP RX9 118 2 3 (tyX2 3) := ⟨RX2, TX2, 7, tyX2, ck_2, by decide, w_115, rfl, rfl⟩
theorem fgX2_25 : FG RX2 25 2 4 := ⟨RX2, TX2, 7, tyX2, ck_2, by decide, w_116⟩
theorem fpX2_25 : FP RX2 25 2 4 (tyX2 4) := ⟨RX2, TX2, 7, tyX2, ck_2, by decide, w_116, rfl, rfl⟩
theorem fgX11_125 : FG RX11 125 2 4 := ⟨RX2, TX2, 7, tyX2, ck_2, by decide, w_117⟩
theorem fpX11_125 : FP RX11 125 2 4 (tyX2 4) := ⟨RX2, TX2, 7, tyX2, ck_2, by decide, w_117, rfl, rfl⟩
theorem fgX0_68 : FG RX0 68 2 4 := ⟨RX2, TX2, 7, tyX2, ck_2, by decide, w_118⟩
theorem fpX0_68 : FP RX0 68 2 4 (tyX2 4) := ⟨RX2, TX2, 7, tyX2, ck_2, by decide, w_118, rfl, rfl⟩
theorem fgX2_28 : FG RX2 28 2 5 := ⟨RX2, TX2, 7, tyX2, ck_2, by decide, w_119⟩
theorem fpX2_28 : FP RX2 28 2 5 (tyX2 5) := ⟨RX2, TX2, 7, tyX2, ck_2, by decide, w_119, rfl, rfl⟩
theorem fgX11_128 : FG RX11 128 2 5 := ⟨RX2, TX2, 7, tyX2, ck_2, by decide, w_120⟩
theorem fpX11_128 : FP RX11 128 2 5 (tyX2 5) := ⟨RX2, TX2, 7, tyX2, ck_2, by decide, w_120, rfl, rfl⟩
theorem fgX2_31 : FG RX2 31 2 6 := ⟨RX2, TX2, 7, tyX2, ck_2, by decide, w_121⟩
theorem fpX2_31 : FP RX2 31 2 6 (tyX2 6) := ⟨RX2, TX2, 7, tyX2, ck_2, by decide, w_121, rfl, rfl⟩
theorem fgX11_131 : FG RX11 131 2 6 := ⟨RX2, TX2, 7, tyX2, ck_2, by decide, w_122⟩
theorem fpX11_131 : FP RX11 131 2 6 (tyX2 6) := ⟨RX2, TX2, 7, tyX2, ck_2, by decide, w_122, rfl, rfl⟩
theorem fgX0_71 : FG RX0 71 2 6 := ⟨RX2, TX2, 7, tyX2, ck_2, by decide, w_123⟩
theorem fpX0_71 : FP RX0 71 2 6 (tyX2 6) := ⟨RX2, TX2, 7, tyX2, ck_2, by decide, w_123, rfl, rfl⟩
theorem fgX0_51 : FG RX0 51 5 0 := ⟨RX5, TX5, 2, tyX5, ck_5, by decide, w_146⟩
theorem fpX0_51 : FP RX0 51 5 0 (tyX5 0) := ⟨RX5, TX5, 2, tyX5, ck_5, by decide, w_146, rfl, rfl⟩
theorem fgX2_66 : FG RX2 66 5 0 := ⟨RX5, TX5, 2, tyX5, ck_5, by decide, w_147⟩
theorem fpX2_66 : FP RX2 66 5 0 (tyX5 0) := ⟨RX5, TX5, 2, tyX5, ck_5, by decide, w_147, rfl, rfl⟩
theorem fgX11_178 : FG RX11 178 5 0 := ⟨RX5, TX5, 2, tyX5, ck_5, by decide, w_148⟩
theorem fpX11_178 : FP RX11 178 5 0 (tyX5 0) := ⟨RX5, TX5, 2, tyX5, ck_5, by decide, w_148, rfl, rfl⟩
theorem fgX0_54 : FG RX0 54 5 1 := ⟨RX5, TX5, 2, tyX5, ck_5, by decide, w_149⟩
theorem fpX0_54 : FP RX0 54 5 1 (tyX5 1) := ⟨RX5, TX5, 2, tyX5, ck_5, by decide, w_149, rfl, rfl⟩
theorem fgX2_73 : FG RX2 73 5 1 := ⟨RX5, TX5, 2, tyX5, ck_5, by decide, w_150⟩
theorem fpX2_73 : FP RX2 73 5 1 (tyX5 1) := ⟨RX5, TX5, 2, tyX5, ck_5, by decide, w_150, rfl, rfl⟩
theorem fgX11_181 : FG RX11 181 5 1 := ⟨RX5, TX5, 2, tyX5, ck_5, by decide, w_151⟩
theorem fpX11_181 : FP RX11 181 5 1 (tyX5 1) := ⟨RX5, TX5, 2, tyX5, ck_5, by decide, w_151, rfl, rfl⟩
theorem fgX0_9 : FG RX0 9 0 0 := ⟨RX0, TX0, 8, tyX0, ck_0, by decide, w_157⟩
theorem ffX0_9 : FF RX0 9 0 0 (tyX0 0) := ⟨RX0, TX0, 8, tyX0, ck_0, by decide, w_157, rfl, rfl, rfl⟩
theorem fgX0_17 : FG RX0 17 0 1 := ⟨RX0, TX0, 8, tyX0, ck_0, by decide, w_158⟩
theorem ffX0_17 : FF RX0 17 0 1 (tyX0 1) := ⟨RX0, TX0, 8, tyX0, ck_0, by decide, w_158, rfl, rfl, rfl⟩
theorem fgX0_26 : FG RX0 26 0 2 := ⟨RX0, TX0, 8, tyX0, ck_0, by decide, w_159⟩
theorem ffX0_26 : FF RX0 26 0 2 (tyX0 2) := ⟨RX0, TX0, 8, tyX0, ck_0, by decide, w_159, rfl, rfl, rfl⟩
theorem fgX0_35 : FG RX0 35 0 3 := ⟨RX0, TX0, 8, tyX0, ck_0, by decide, w_160⟩
theorem fpX0_35 : FP RX0 35 0 3 (tyX0 3) := ⟨RX0, TX0, 8, tyX0, ck_0, by decide, w_160, rfl, rfl⟩
theorem fgX11_99 : FG RX11 99 0 3 := ⟨RX0, TX0, 8, tyX0, ck_0, by decide, w_161⟩
theorem fpX11_99 : FP RX11 99 0 3 (tyX0 3) := ⟨RX0, TX0, 8, tyX0, ck_0, by decide, w_161, rfl, rfl⟩
theorem fgX0_38 : FG RX0 38 0 4 := ⟨RX0, TX0, 8, tyX0, ck_0, by decide, w_162⟩
theorem fpX0_38 : FP RX0 38 0 4 (tyX0 4) := ⟨RX0, TX0, 8, tyX0, ck_0, by decide, w_162, rfl, rfl⟩
theorem fgX9_120 : FG RX9 120 0 4 := ⟨RX0, TX0, 8, tyX0, ck_0, by decide, w_163⟩
theorem fpX9_120 : FP RX9 120 0 4 (tyX0 4) := ⟨RX0, TX0, 8, tyX0, ck_0, by decide, w_163, rfl, rfl⟩
theorem fgX11_171 : FG RX11 171 0 4 := ⟨RX0, TX0, 8, tyX0, ck_0, by decide, w_164⟩
theorem fpX11_171 : FP RX11 171 0 4 (tyX0 4) := ⟨RX0, TX0, 8, tyX0, ck_0, by decide, w_164, rfl, rfl⟩
theorem fgX0_41 : FG RX0 41 0 5 := ⟨RX0, TX0, 8, tyX0, ck_0, by decide, w_165⟩
theorem fpX0_41 : FP RX0 41 0 5 (tyX0 5) := ⟨RX0, TX0, 8, tyX0, ck_0, by decide, w_165, rfl, rfl⟩
theorem fgX11_77 : FG RX11 77 0 5 := ⟨RX0, TX0, 8, tyX0, ck_0, by decide, w_166⟩
theorem fpX11_77 : FP RX11 77 0 5 (tyX0 5) := ⟨RX0, TX0, 8, tyX0, ck_0, by decide, w_166, rfl, rfl⟩
theorem fgX0_31 : FG RX0 31 0 6 := ⟨RX0, TX0, 8, tyX0, ck_0, by decide, w_167⟩
theorem fpX0_31 : FP RX0 31 0 6 (tyX0 6) := ⟨RX0, TX0, 8, tyX0, ck_0, by decide, w_167, rfl, rfl⟩
theorem fgX11_65 : FG RX11 65 0 6 := ⟨RX0, TX0, 8, tyX0, ck_0, by decide, w_168⟩
theorem fpX11_65 : FP RX11 65 0 6 (tyX0 6) := ⟨RX0, TX0, 8, tyX0, ck_0, by decide, w_168, rfl, rfl⟩
theorem fgX9_127 : FG RX9 127 0 6 := ⟨RX0, TX0, 8, tyX0, ck_0, by decide, w_169⟩
theorem fpX9_127 : FP RX9 127 0 6 (tyX0 6) := ⟨RX0, TX0, 8, tyX0, ck_0, by decide, w_169, rfl, rfl⟩
theorem fgX0_44 : FG RX0 44 0 7 := ⟨RX0, TX0, 8, tyX0, ck_0, by decide, w_170⟩
theorem fpX0_44 : FP RX0 44 0 7 (tyX0 7) := ⟨RX0, TX0, 8, tyX0, ck_0, by decide, w_170, rfl, rfl⟩
theorem fgX11_69 : FG RX11 69 0 7 := ⟨RX0, TX0, 8, tyX0, ck_0, by decide, w_171⟩
theorem fpX11_69 : FP RX11 69 0 7 (tyX0 7) := ⟨RX0, TX0, 8, tyX0, ck_0, by decide, w_171, rfl, rfl⟩
theorem fgX9_73 : FG RX9 73 0 7 := ⟨RX0, TX0, 8, tyX0, ck_0, by decide, w_172⟩
theorem fpX9_73 : FP RX9 73 0 7 (tyX0 7) := ⟨RX0, TX0, 8, tyX0, ck_0, by decide, w_172, rfl, rfl⟩
theorem fgX9_9 : FG RX9 9 9 0 := ⟨RX9, TX9, 8, tyX9, ck_9, by decide, w_198⟩
theorem ffX9_9 : FF RX9 9 9 0 (tyX9 0) := ⟨RX9, TX9, 8, tyX9, ck_9, by decide, w_198, rfl, rfl, rfl⟩
theorem fgX9_15 : FG RX9 15 9 1 := ⟨RX9, TX9, 8, tyX9, ck_9, by decide, w_199⟩
theorem fpX9_15 : FP RX9 15 9 1 (tyX9 1) := ⟨RX9, TX9, 8, tyX9, ck_9, by decide, w_199, rfl, rfl⟩
theorem fgX11_220 : FG RX11 220 9 1 := ⟨RX9, TX9, 8, tyX9, ck_9, by decide, w_200⟩
theorem fpX11_220 : FP RX11 220 9 1 (tyX9 1) := ⟨RX9, TX9, 8, tyX9, ck_9, by decide, w_200, rfl, rfl⟩
theorem fgX9_29 : FG RX9 29 9 2 := ⟨RX9, TX9, 8, tyX9, ck_9, by decide, w_201⟩
theorem fpX9_29 : FP RX9 29 9 2 (tyX9 2) := ⟨RX9, TX9, 8, tyX9, ck_9, by decide, w_201, rfl, rfl⟩
theorem fgX9_32 : FG RX9 32 9 3 := ⟨RX9, TX9, 8, tyX9, ck_9, by decide, w_202⟩
theorem fpX9_32 : FP RX9 32 9 3 (tyX9 3) := ⟨RX9, TX9, 8, tyX9, ck_9, by decide, w_202, rfl, rfl⟩
theorem fgX9_19 : FG RX9 19 9 4 := ⟨RX9, TX9, 8, tyX9, ck_9, by decide, w_203⟩
theorem fpX9_19 : FP RX9 19 9 4 (tyX9 4) := ⟨RX9, TX9, 8, tyX9, ck_9, by decide, w_203, rfl, rfl⟩
theorem fgX9_115 : FG RX9 115 9 5 := ⟨RX9, TX9, 8, tyX9, ck_9, by decide, w_204⟩
theorem fpX9_115 : FP RX9 115 9 5 (tyX9 5) := ⟨RX9, TX9, 8, tyX9, ck_9, by decide, w_204, rfl, rfl⟩
theorem fgX9_95 : FG RX9 95 9 6 := ⟨RX9, TX9, 8, tyX9, ck_9, by decide, w_205⟩
theorem fpX9_95 : FP RX9 95 9 6 (tyX9 6) := ⟨RX9, TX9, 8, tyX9, ck_9, by decide, w_205, rfl, rfl⟩
theorem fgX9_103 : FG RX9 103 9 7 := ⟨RX9, TX9, 8, tyX9, ck_9, by decide, w_206⟩
theorem fpX9_103 : FP RX9 103 9 7 (tyX9 7) := ⟨RX9, TX9, 8, tyX9, ck_9, by decide, w_206, rfl, rfl⟩
theorem fgX6_9 : FG RX6 9 6 0 := ⟨RX6, TX6, 3, tyX6, ck_6, by decide, w_232⟩
theorem ffX6_9 : FF RX6 9 6 0 (tyX6 0) := ⟨RX6, TX6, 3, tyX6, ck_6, by decide, w_232, rfl, rfl, rfl⟩
theorem fgX11_248 : FG RX11 248 6 0 := ⟨RX6, TX6, 3, tyX6, ck_6, by decide, w_233⟩
theorem fgX6_15 : FG RX6 15 6 1 := ⟨RX6, TX6, 3, tyX6, ck_6, by decide, w_234⟩
theorem fpX6_15 : FP RX6 15 6 1 (tyX6 1) := ⟨RX6, TX6, 3, tyX6, ck_6, by decide, w_234, rfl, rfl⟩
theorem fgX11_256 : FG RX11 256 6 1 := ⟨RX6, TX6, 3, tyX6, ck_6, by decide, w_235⟩
theorem fpX11_256 : FP RX11 256 6 1 (tyX6 1) := ⟨RX6, TX6, 3, tyX6, ck_6, by decide, w_235, rfl, rfl⟩
theorem fgX6_19 : FG RX6 19 6 2 := ⟨RX6, TX6, 3, tyX6, ck_6, by decide, w_236⟩
theorem fpX6_19 : FP RX6 19 6 2 (tyX6 2) := ⟨RX6, TX6, 3, tyX6, ck_6, by decide, w_236, rfl, rfl⟩
theorem fgX11_242 : FG RX11 242 6 2 := ⟨RX6, TX6, 3, tyX6, ck_6, by decide, w_237⟩
theorem fpX11_242 : FP RX11 242 6 2 (tyX6 2) := ⟨RX6, TX6, 3, tyX6, ck_6, by decide, w_237, rfl, rfl⟩
theorem fgX11_18 : FG RX11 18 11 0 := ⟨RX11, TX11, 8, tyX11, ck_11, by decide, w_246⟩
theorem ffX11_18 : FF RX11 18 11 0 (tyX11 0) := ⟨RX11, TX11, 8, tyX11, ck_11, by decide, w_246, rfl, rfl, rfl⟩
theorem fgX11_24 : FG RX11 24 11 1 := ⟨RX11, TX11, 8, tyX11, ck_11, by decide, w_247⟩
theorem ffX11_24 : FF RX11 24 11 1 (tyX11 1) := ⟨RX11, TX11, 8, tyX11, ck_11, by decide, w_247, rfl, rfl, rfl⟩
theorem fgX11_27 : FG RX11 27 11 2 := ⟨RX11, TX11, 8, tyX11, ck_11, by decide, w_248⟩
theorem ffX11_27 : FF RX11 27 11 2 (tyX11 2) := ⟨RX11, TX11, 8, tyX11, ck_11, by decide, w_248, rfl, rfl, rfl⟩
theorem fgX11_35 : FG RX11 35 11 3 := ⟨RX11, TX11, 8, tyX11, ck_11, by decide, w_249⟩
theorem ffX11_35 : FF RX11 35 11 3 (tyX11 3) := ⟨RX11, TX11, 8, tyX11, ck_11, by decide, w_249, rfl, rfl, rfl⟩
theorem fgX11_42 : FG RX11 42 11 4 := ⟨RX11, TX11, 8, tyX11, ck_11, by decide, w_250⟩
theorem ffX11_42 : FF RX11 42 11 4 (tyX11 4) := ⟨RX11, TX11, 8, tyX11, ck_11, by decide, w_250, rfl, rfl, rfl⟩
theorem fgX11_48 : FG RX11 48 11 5 := ⟨RX11, TX11, 8, tyX11, ck_11, by decide, w_251⟩
theorem ffX11_48 : FF RX11 48 11 5 (tyX11 5) := ⟨RX11, TX11, 8, tyX11, ck_11, by decide, w_251, rfl, rfl, rfl⟩
theorem fgX11_53 : FG RX11 53 11 6 := ⟨RX11, TX11, 8, tyX11, ck_11, by decide, w_252⟩
theorem ffX11_53 : FF RX11 53 11 6 (tyX11 6) := ⟨RX11, TX11, 8, tyX11, ck_11, by decide, w_252, rfl, rfl, rfl⟩
theorem fgX11_57 : FG RX11 57 11 7 := ⟨RX11, TX11, 8, tyX11, ck_11, by decide, w_253⟩
theorem fpX11_57 : FP RX11 57 11 7 (tyX11 7) := ⟨RX11, TX11, 8, tyX11, ck_11, by decide, w_253, rfl, rfl⟩
theorem fgX12_7 : FG RX12 7 12 0 := ⟨RX12, TX12, 16, tyX12, ck_12, by decide, w_823⟩
theorem ffX12_7 : FF RX12 7 12 0 (tyX12 0) := ⟨RX12, TX12, 16, tyX12, ck_12, by decide, w_823, rfl, rfl, rfl⟩
theorem fgX12_13 : FG RX12 13 12 1 := ⟨RX12, TX12, 16, tyX12, ck_12, by decide, w_824⟩
theorem ffX12_13 : FF RX12 13 12 1 (tyX12 1) := ⟨RX12, TX12, 16, tyX12, ck_12, by decide, w_824, rfl, rfl, rfl⟩
theorem fgX12_16 : FG RX12 16 12 2 := ⟨RX12, TX12, 16, tyX12, ck_12, by decide, w_825⟩
theorem ffX12_16 : FF RX12 16 12 2 (tyX12 2) := ⟨RX12, TX12, 16, tyX12, ck_12, by decide, w_825, rfl, rfl, rfl⟩
theorem fgX12_19 : FG RX12 19 12 3 := ⟨RX12, TX12, 16, tyX12, ck_12, by decide, w_826⟩
theorem ffX12_19 : FF RX12 19 12 3 (tyX12 3) := ⟨RX12, TX12, 16, tyX12, ck_12, by decide, w_826, rfl, rfl, rfl⟩
theorem fgX12_22 : FG RX12 22 12 4 := ⟨RX12, TX12, 16, tyX12, ck_12, by decide, w_827⟩
theorem ffX12_22 : FF RX12 22 12 4 (tyX12 4) := ⟨RX12, TX12, 16, tyX12, ck_12, by decide, w_827, rfl, rfl, rfl⟩
theorem fgX12_315 : FG RX12 315 12 5 := ⟨RX12, TX12, 16, tyX12, ck_12, by decide, w_828⟩
theorem fpX12_315 : FP RX12 315 12 5 (tyX12 5) := ⟨RX12, TX12, 16, tyX12, ck_12, by decide, w_828, rfl, rfl⟩
theorem fgX12_25 : FG RX12 25 12 6 := ⟨RX12, TX12, 16, tyX12, ck_12, by decide, w_829⟩
theorem ffX12_25 : FF RX12 25 12 6 (tyX12 6) := ⟨RX12, TX12, 16, tyX12, ck_12, by decide, w_829, rfl, rfl, rfl⟩
theorem fgX12_193 : FG RX12 193 12 7 := ⟨RX12, TX12, 16, tyX12, ck_12, by decide, w_830⟩
theorem fpX12_193 : FP RX12 193 12 7 (tyX12 7) := ⟨RX12, TX12, 16, tyX12, ck_12, by decide, w_830, rfl, rfl⟩
theorem fgX12_208 : FG RX12 208 12 8 := ⟨RX12, TX12, 16, tyX12, ck_12, by decide, w_831⟩
theorem fpX12_208 : FP RX12 208 12 8 (tyX12 8) := ⟨RX12, TX12, 16, tyX12, ck_12, by decide, w_831, rfl, rfl⟩
theorem fgX12_205 : FG RX12 205 12 9 := ⟨RX12, TX12, 16, tyX12, ck_12, by decide, w_832⟩
theorem fpX12_205 : FP RX12 205 12 9 (tyX12 9) := ⟨RX12, TX12, 16, tyX12, ck_12, by decide, w_832, rfl, rfl⟩
theorem fgX12_231 : FG RX12 231 12 10 := ⟨RX12, TX12, 16, tyX12, ck_12, by decide, w_833⟩
theorem fpX12_231 : FP RX12 231 12 10 (tyX12 10) := ⟨RX12, TX12, 16, tyX12, ck_12, by decide, w_833, rfl, rfl⟩
theorem fgX12_220 : FG RX12 220 12 11 := ⟨RX12, TX12, 16, tyX12, ck_12, by decide, w_834⟩
theorem fpX12_220 : FP RX12 220 12 11 (tyX12 11) := ⟨RX12, TX12, 16, tyX12, ck_12, by decide, w_834, rfl, rfl⟩
theorem fgX12_28 : FG RX12 28 12 12 := ⟨RX12, TX12, 16, tyX12, ck_12, by decide, w_835⟩
theorem ffX12_28 : FF RX12 28 12 12 (tyX12 12) := ⟨RX12, TX12, 16, tyX12, ck_12, by decide, w_835, rfl, rfl, rfl⟩
theorem fgX12_31 : FG RX12 31 12 13 := ⟨RX12, TX12, 16, tyX12, ck_12, by decide, w_836⟩
theorem ffX12_31 : FF RX12 31 12 13 (tyX12 13) := ⟨RX12, TX12, 16, tyX12, ck_12, by decide, w_836, rfl, rfl, rfl⟩
theorem fgX12_34 : FG RX12 34 12 14 := ⟨RX12, TX12, 16, tyX12, ck_12, by decide, w_837⟩
theorem ffX12_34 : FF RX12 34 12 14 (tyX12 14) := ⟨RX12, TX12, 16, tyX12, ck_12, by decide, w_837, rfl, rfl, rfl⟩
theorem fgX12_38 : FG RX12 38 12 15 := ⟨RX12, TX12, 16, tyX12, ck_12, by decide, w_838⟩
theorem ffX12_38 : FF RX12 38 12 15 (tyX12 15) := ⟨RX12, TX12, 16, tyX12, ck_12, by decide, w_838, rfl, rfl, rfl⟩
theorem kX11_72 : Cond.constant RX11 72 (-1000000001) ∈ gtbl := w_279
theorem kX11_98 : Cond.constant RX11 98 (-1000000002) ∈ gtbl := w_328
theorem kX11_151 : Cond.constant RX11 151 (-1000000005) ∈ gtbl := w_453
theorem kX11_163 : Cond.constant RX11 163 (-1000000003) ∈ gtbl := w_478
theorem kX11_186 : Cond.constant RX11 186 (99999) ∈ gtbl := w_504
theorem kX11_205 : Cond.constant RX11 205 (-1000000004) ∈ gtbl := w_549
theorem kJ6_265 : Cond.constant RJ6 265 (1431655765) ∈ gtbl := w_582
theorem kJ6_266 : Cond.constant RJ6 266 (858993459) ∈ gtbl := w_583
theorem kJ6_267 : Cond.constant RJ6 267 (252645135) ∈ gtbl := w_584
theorem kX11_238 : Cond.constant RX11 238 (-1000000007) ∈ gtbl := w_742
theorem kX11_247 : Cond.constant RX11 247 (-1000000006) ∈ gtbl := w_755
theorem kX11_268 : Cond.constantLong RX11 268 (10) ∈ gtbl := w_779
theorem kX11_270 : Cond.constantLong RX11 270 (200) ∈ gtbl := w_780
theorem kX12_56 : Cond.constantLong RX12 56 (20) ∈ gtbl := w_876
theorem kX12_58 : Cond.constantLong RX12 58 (95) ∈ gtbl := w_877
theorem kX12_41 : Cond.constant RX12 41 (-1000000001) ∈ gtbl := w_885
theorem kX12_52 : Cond.constantLong RX12 52 (10) ∈ gtbl := w_925
theorem kX12_73 : Cond.constantLong RX12 73 (15) ∈ gtbl := w_926
theorem kX12_50 : Cond.constantLong RX12 50 (5) ∈ gtbl := w_934
theorem kX12_99 : Cond.constant RX12 99 (-1000000002) ∈ gtbl := w_935
theorem kX12_54 : Cond.constantLong RX12 54 (200) ∈ gtbl := w_974
theorem kX12_119 : Cond.constantLong RX12 119 (99) ∈ gtbl := w_975
theorem kX12_121 : Cond.constantLong RX12 121 (9999) ∈ gtbl := w_976
theorem kX12_137 : Cond.constantLong RX12 137 (50) ∈ gtbl := w_996
theorem kX12_139 : Cond.constant RX12 139 (-1000000005) ∈ gtbl := w_997
theorem kX12_146 : Cond.constant RX12 146 (-1000000003) ∈ gtbl := w_1013
theorem kX12_157 : Cond.constantLong RX12 157 (100) ∈ gtbl := w_1038
theorem kX12_159 : Cond.constant RX12 159 (99999) ∈ gtbl := w_1039
theorem kX12_166 : Cond.constantLong RX12 166 (2) ∈ gtbl := w_1055
theorem kX12_178 : Cond.constantLong RX12 178 (40) ∈ gtbl := w_1068
theorem kX12_187 : Cond.constant RX12 187 (-1000000004) ∈ gtbl := w_1085
theorem kX12_191 : Cond.constantLong RX12 191 (4) ∈ gtbl := w_1114
theorem kX12_197 : Cond.constantLong RX12 197 (97) ∈ gtbl := w_1138
theorem kX12_199 : Cond.constantLong RX12 199 (122) ∈ gtbl := w_1139
theorem kX12_201 : Cond.constantLong RX12 201 (48) ∈ gtbl := w_1143
theorem kX12_203 : Cond.constantLong RX12 203 (57) ∈ gtbl := w_1144
theorem kX12_227 : Cond.constantLong RX12 227 (36028797018963967) ∈ gtbl := w_1157
theorem kX12_229 : Cond.constantLong RX12 229 (32) ∈ gtbl := w_1158
theorem kX12_242 : Cond.constantLong RX12 242 (7569053140) ∈ gtbl := w_1159
theorem kX12_244 : Cond.constantLong RX12 244 (769516) ∈ gtbl := w_1160
theorem kX12_246 : Cond.constantLong RX12 246 (117068270) ∈ gtbl := w_1161
theorem kX12_248 : Cond.constantLong RX12 248 (632203) ∈ gtbl := w_1162
theorem kX12_250 : Cond.constantLong RX12 250 (358006962) ∈ gtbl := w_1163
theorem kX12_252 : Cond.constantLong RX12 252 (638059) ∈ gtbl := w_1164
theorem kX12_254 : Cond.constantLong RX12 254 (632645) ∈ gtbl := w_1173
theorem kX12_259 : Cond.constantLong RX12 259 (21242987) ∈ gtbl := w_1178
theorem kX12_267 : Cond.constantLong RX12 267 (542723566) ∈ gtbl := w_1179
theorem kX12_272 : Cond.constantLong RX12 272 (4470674611) ∈ gtbl := w_1184
theorem kX12_277 : Cond.constantLong RX12 277 (687576467) ∈ gtbl := w_1189
theorem kX12_279 : Cond.constantLong RX12 279 (474565) ∈ gtbl := w_1190
theorem kX12_284 : Cond.constantLong RX12 284 (755304) ∈ gtbl := w_1195
theorem kX12_298 : Cond.constantLong RX12 298 (3) ∈ gtbl := w_1211
theorem kX12_303 : Cond.constant RX12 303 (-1000000007) ∈ gtbl := w_1212
theorem kX12_304 : Cond.constant RX12 304 (-1000000006) ∈ gtbl := w_1221
theorem kX12_321 : Cond.constantLong RX12 321 (-1) ∈ gtbl := w_1269
theorem kX12_323 : Cond.constantLong RX12 323 (6) ∈ gtbl := w_1270
theorem kL_117 : Cond.constantLong RL 117 (4294967295) ∈ gtbl := w_1271
theorem lkX0_3 : Cond.methodLink RX0 3 Lib.objectInit ∈ gtbl ∧ Cond.instanceMethod Lib.objectInit ∈ gtbl ∧ Cond.code Lib.objectInit ⟨#[0xb1]⟩ 1 none ∈ gtbl := ⟨w_97, w_27, w_28⟩
theorem lkX0_21 : MLI RX0 21 MX2_init 1 := ⟨⟨w_101, w_102, w_9, w_103⟩, nX2_init, by decide, rfl, rfl⟩
theorem lkX0_30 : MLJ RX0 30 MX5_init 0 := ⟨⟨List.mem_of_getElem? (i := 0) rfl, w_143, w_10, w_144⟩, nX5_init, by decide, rfl, rfl⟩
theorem lkX0_47 : MLV RX0 47 MX2_become 1 := ⟨⟨w_574, w_523, w_524, w_9, w_525⟩, nX2_become, by decide⟩
theorem lkX0_57 : MLV RX0 57 MX0_kindAt 1 := ⟨⟨w_320, w_321, w_322, w_8, w_323⟩, nX0_kindAt, by decide⟩
theorem lkX0_61 : MLV RX0 61 MX2_beNew 1 := ⟨⟨w_324, w_325, w_326, w_9, w_327⟩, nX2_beNew, by decide⟩
theorem lkX0_64 : MLV RX0 64 MX2_dryFor 1 := ⟨⟨w_509, w_510, w_511, w_9, w_512⟩, nX2_dryFor, by decide⟩
theorem lkX0_74 : MLV RX0 74 MX2_suits 1 := ⟨⟨w_304, w_305, w_306, w_9, w_307⟩, nX2_suits, by decide⟩
theorem lkX0_78 : MLV RX0 78 MX0_onesFor 1 := ⟨⟨w_300, w_301, w_302, w_8, w_303⟩, nX0_onesFor, by decide⟩
theorem lkX0_82 : MLS RX0 82 MJ6_bitCount_0f7a4 1 := ⟨⟨w_579, w_580, w_15, w_581⟩, nJ6_bitCount_0f7a4, by decide⟩
theorem lkX1_1 : MLI RX1 1 MX4_init 2 := ⟨⟨w_60, w_35, w_2, w_36⟩, nX4_init, by decide, rfl, rfl⟩
theorem lkX2_3 : Cond.methodLink RX2 3 Lib.objectInit ∈ gtbl ∧ Cond.instanceMethod Lib.objectInit ∈ gtbl ∧ Cond.code Lib.objectInit ⟨#[0xb1]⟩ 1 none ∈ gtbl := ⟨w_104, w_27, w_28⟩
theorem lkX2_34_1 : MLO RX2 34 RX1 RX4 yX4_shrinks MX1_shrinks 2 := ⟨⟨w_441, w_340, w_338, ⟨_, _, _, w_358⟩, w_341, w_342, w_4, w_343⟩, nX4_shrinks, by decide⟩
theorem lkX2_34_3 : MLO RX2 34 RX3 RX4 yX4_shrinks MX3_shrinks 2 := ⟨⟨w_441, w_340, w_338, ⟨_, _, _, w_358⟩, w_344, w_345, w_6, w_346⟩, nX4_shrinks, by decide⟩
theorem lkX2_34_4 : MLO RX2 34 RX4 RX4 yX4_shrinks MX4_shrinks 2 := ⟨⟨w_441, w_340, w_338, ⟨_, _, _, w_358⟩, w_339, w_338, w_2, w_358⟩, nX4_shrinks, by decide⟩
theorem lkX2_34_7 : MLO RX2 34 RX7 RX4 yX4_shrinks MX7_shrinks 2 := ⟨⟨w_441, w_340, w_338, ⟨_, _, _, w_358⟩, w_350, w_351, w_5, w_352⟩, nX4_shrinks, by decide⟩
theorem lkX2_34_8 : MLO RX2 34 RX8 RX4 yX4_shrinks MX8_shrinks 2 := ⟨⟨w_441, w_340, w_338, ⟨_, _, _, w_358⟩, w_353, w_354, w_7, w_355⟩, nX4_shrinks, by decide⟩
theorem lkX2_34_10 : MLO RX2 34 RX10 RX4 yX4_shrinks MX10_shrinks 2 := ⟨⟨w_441, w_340, w_338, ⟨_, _, _, w_358⟩, w_357, w_348, w_3, w_349⟩, nX4_shrinks, by decide⟩
theorem lkX2_40 : Cond.methodLink RX2 40 Lib.Math.max.name ∈ gtbl ∧ Cond.static Lib.Math.max.name ∈ gtbl ∧ Cond.initialized "java/lang/Math" ∈ gtbl ∧ Cond.code Lib.Math.max.name Lib.Math.max.code 2 (some .int) ∈ gtbl := ⟨w_442, w_443, w_14, w_444⟩
theorem lkX2_45_1 : MLO RX2 45 RX1 RX4 yX4_felts MX4_felts 1 := ⟨⟨w_445, w_362, w_360, ⟨_, _, _, w_378⟩, w_363, w_360, w_2, w_378⟩, nX4_felts, by decide⟩
theorem lkX2_45_3 : MLO RX2 45 RX3 RX4 yX4_felts MX3_felts 1 := ⟨⟨w_445, w_362, w_360, ⟨_, _, _, w_378⟩, w_364, w_365, w_6, w_366⟩, nX4_felts, by decide⟩
theorem lkX2_45_4 : MLO RX2 45 RX4 RX4 yX4_felts MX4_felts 1 := ⟨⟨w_445, w_362, w_360, ⟨_, _, _, w_378⟩, w_361, w_360, w_2, w_378⟩, nX4_felts, by decide⟩
theorem lkX2_45_7 : MLO RX2 45 RX7 RX4 yX4_felts MX4_felts 1 := ⟨⟨w_445, w_362, w_360, ⟨_, _, _, w_378⟩, w_370, w_360, w_2, w_378⟩, nX4_felts, by decide⟩
theorem lkX2_45_8 : MLO RX2 45 RX8 RX4 yX4_felts MX8_felts 1 := ⟨⟨w_445, w_362, w_360, ⟨_, _, _, w_378⟩, w_371, w_372, w_7, w_373⟩, nX4_felts, by decide⟩
theorem lkX2_45_10 : MLO RX2 45 RX10 RX4 yX4_felts MX10_felts 1 := ⟨⟨w_445, w_362, w_360, ⟨_, _, _, w_378⟩, w_377, w_368, w_3, w_369⟩, nX4_felts, by decide⟩
theorem lkX2_49 : Cond.methodLink RX2 49 Lib.Math.min.name ∈ gtbl ∧ Cond.static Lib.Math.min.name ∈ gtbl ∧ Cond.initialized "java/lang/Math" ∈ gtbl ∧ Cond.code Lib.Math.min.name Lib.Math.min.code 2 (some .int) ∈ gtbl := ⟨w_446, w_447, w_14, w_448⟩
theorem lkX2_52 : MLV RX2 52 MX2_goThroughWash 2 := ⟨⟨w_539, w_438, w_439, w_9, w_440⟩, nX2_goThroughWash, by decide⟩
theorem lkX2_56_1 : MLO RX2 56 RX1 RX4 yX4_bears MX1_bears 2 := ⟨⟨w_458, w_382, w_380, ⟨_, _, _, w_402⟩, w_383, w_384, w_4, w_385⟩, nX4_bears, by decide⟩
theorem lkX2_56_3 : MLO RX2 56 RX3 RX4 yX4_bears MX3_bears 2 := ⟨⟨w_458, w_382, w_380, ⟨_, _, _, w_402⟩, w_386, w_387, w_6, w_388⟩, nX4_bears, by decide⟩
theorem lkX2_56_4 : MLO RX2 56 RX4 RX4 yX4_bears MX4_bears 2 := ⟨⟨w_458, w_382, w_380, ⟨_, _, _, w_402⟩, w_381, w_380, w_2, w_402⟩, nX4_bears, by decide⟩
theorem lkX2_56_7 : MLO RX2 56 RX7 RX4 yX4_bears MX7_bears 2 := ⟨⟨w_458, w_382, w_380, ⟨_, _, _, w_402⟩, w_393, w_394, w_5, w_395⟩, nX4_bears, by decide⟩
theorem lkX2_56_8 : MLO RX2 56 RX8 RX4 yX4_bears MX8_bears 2 := ⟨⟨w_458, w_382, w_380, ⟨_, _, _, w_402⟩, w_397, w_398, w_7, w_399⟩, nX4_bears, by decide⟩
theorem lkX2_56_10 : MLO RX2 56 RX10 RX4 yX4_bears MX10_bears 2 := ⟨⟨w_458, w_382, w_380, ⟨_, _, _, w_402⟩, w_401, w_390, w_3, w_391⟩, nX4_bears, by decide⟩
theorem lkX2_59 : MLV RX2 59 MX2_dryOneDay 0 := ⟨⟨w_513, w_515, ws_1, w_9, w_516⟩, nX2_dryOneDay, by decide⟩
theorem lkX2_62_1 : MLO RX2 62 RX1 RX4 yX4_keeps MX1_keeps 0 := ⟨⟨w_517, w_406, w_404, ⟨_, _, _, w_422⟩, w_407, w_408, w_4, w_409⟩, nX4_keeps, by decide⟩
theorem lkX2_62_3 : MLO RX2 62 RX3 RX4 yX4_keeps MX3_keeps 0 := ⟨⟨w_517, w_406, w_404, ⟨_, _, _, w_422⟩, w_410, w_411, w_6, w_412⟩, nX4_keeps, by decide⟩
theorem lkX2_62_4 : MLO RX2 62 RX4 RX4 yX4_keeps MX4_keeps 0 := ⟨⟨w_517, w_406, w_404, ⟨_, _, _, w_422⟩, w_405, w_404, w_2, w_422⟩, nX4_keeps, by decide⟩
theorem lkX2_62_7 : MLO RX2 62 RX7 RX4 yX4_keeps MX7_keeps 0 := ⟨⟨w_517, w_406, w_404, ⟨_, _, _, w_422⟩, w_416, w_417, w_5, w_418⟩, nX4_keeps, by decide⟩
theorem lkX2_62_8 : MLO RX2 62 RX8 RX4 yX4_keeps MX1_keeps 0 := ⟨⟨w_517, w_406, w_404, ⟨_, _, _, w_422⟩, w_420, w_408, w_4, w_409⟩, nX4_keeps, by decide⟩
theorem lkX2_62_10 : MLO RX2 62 RX10 RX4 yX4_keeps MX4_keeps 0 := ⟨⟨w_517, w_406, w_404, ⟨_, _, _, w_422⟩, w_421, w_404, w_2, w_422⟩, nX4_keeps, by decide⟩
theorem lkX2_69 : MLN RX2 69 MX11_within 3 := ⟨⟨List.mem_of_getElem? (i := 3) rfl, w_277, w_1, w_278⟩, nX11_within, by decide⟩
theorem lkX3_1 : MLI RX3 1 MX10_init 2 := ⟨⟨w_79, w_49, w_3, w_50⟩, nX10_init, by decide, rfl, rfl⟩
theorem lkX3_7 : MLU RX3 7 ⟨RX10, "shrinks", "(II)I"⟩ MX10_shrinks 2 := ⟨⟨w_347, w_1272, w_82, Or.inl rfl, w_348, w_3, w_349⟩, nX10_shrinks, by decide, by decide, rfl⟩
theorem lkX3_11 : MLU RX3 11 ⟨RX10, "felts", "(I)I"⟩ MX10_felts 1 := ⟨⟨w_367, w_1274, w_82, Or.inl rfl, w_368, w_3, w_369⟩, nX10_felts, by decide, by decide, rfl⟩
theorem lkX3_15 : MLU RX3 15 ⟨RX10, "bears", "(II)I"⟩ MX10_bears 2 := ⟨⟨w_389, w_1275, w_82, Or.inl rfl, w_390, w_3, w_391⟩, nX10_bears, by decide, by decide, rfl⟩
theorem lkX3_18 : MLU RX3 18 ⟨RX10, "keeps", "()I"⟩ MX4_keeps 0 := ⟨⟨w_413, w_414, w_82, Or.inr w_54, w_404, w_2, w_422⟩, nX4_keeps, by decide, by decide, rfl⟩
theorem lkX4_3 : Cond.methodLink RX4 3 Lib.objectInit ∈ gtbl ∧ Cond.instanceMethod Lib.objectInit ∈ gtbl ∧ Cond.code Lib.objectInit ⟨#[0xb1]⟩ 1 none ∈ gtbl := ⟨w_37, w_27, w_28⟩
theorem lkX4_19 : MLI RX4 19 MX4_init 2 := ⟨⟨w_34, w_35, w_2, w_36⟩, nX4_init, by decide, rfl, rfl⟩
theorem lkX4_24 : MLI RX4 24 MX10_init 2 := ⟨⟨w_48, w_49, w_3, w_50⟩, nX10_init, by decide, rfl, rfl⟩
theorem lkX4_27 : MLI RX4 27 MX1_init 2 := ⟨⟨w_57, w_58, w_4, w_59⟩, nX1_init, by decide, rfl, rfl⟩
theorem lkX4_30 : MLI RX4 30 MX7_init 2 := ⟨⟨w_66, w_67, w_5, w_68⟩, nX7_init, by decide, rfl, rfl⟩
theorem lkX4_33 : MLI RX4 33 MX3_init 2 := ⟨⟨w_76, w_77, w_6, w_78⟩, nX3_init, by decide, rfl, rfl⟩
theorem lkX4_36 : MLI RX4 36 MX8_init 2 := ⟨⟨w_85, w_86, w_7, w_87⟩, nX8_init, by decide, rfl, rfl⟩
theorem lkX5_1 : Cond.methodLink RX5 1 Lib.objectInit ∈ gtbl ∧ Cond.instanceMethod Lib.objectInit ∈ gtbl ∧ Cond.code Lib.objectInit ⟨#[0xb1]⟩ 1 none ∈ gtbl := ⟨w_145, w_27, w_28⟩
theorem lkX6_3 : Cond.methodLink RX6 3 Lib.objectInit ∈ gtbl ∧ Cond.instanceMethod Lib.objectInit ∈ gtbl ∧ Cond.code Lib.objectInit ⟨#[0xb1]⟩ 1 none ∈ gtbl := ⟨w_231, w_27, w_28⟩
theorem lkX6_22 : MLV RX6 22 MX6_lowestBits 1 := ⟨⟨w_760, w_762, ws_18, w_12, w_763⟩, nX6_lowestBits, by decide⟩
theorem lkX7_1 : MLI RX7 1 MX4_init 2 := ⟨⟨w_69, w_35, w_2, w_36⟩, nX4_init, by decide, rfl, rfl⟩
theorem lkX7_7 : MLU RX7 7 ⟨RX4, "bears", "(II)I"⟩ MX4_bears 2 := ⟨⟨w_396, w_382, w_72, Or.inl rfl, w_380, w_2, w_402⟩, nX4_bears, by decide, by decide, rfl⟩
theorem lkX7_11 : MLU RX7 11 ⟨RX4, "keeps", "()I"⟩ MX4_keeps 0 := ⟨⟨w_419, w_406, w_72, Or.inl rfl, w_404, w_2, w_422⟩, nX4_keeps, by decide, by decide, rfl⟩
theorem lkX8_1 : MLI RX8 1 MX1_init 2 := ⟨⟨w_88, w_58, w_4, w_59⟩, nX1_init, by decide, rfl, rfl⟩
theorem lkX8_7 : MLU RX8 7 ⟨RX1, "shrinks", "(II)I"⟩ MX1_shrinks 2 := ⟨⟨w_356, w_1273, w_91, Or.inl rfl, w_342, w_4, w_343⟩, nX1_shrinks, by decide, by decide, rfl⟩
theorem lkX8_11 : MLU RX8 11 ⟨RX1, "felts", "(I)I"⟩ MX4_felts 1 := ⟨⟨w_374, w_375, w_91, Or.inr w_63, w_360, w_2, w_378⟩, nX4_felts, by decide, by decide, rfl⟩
theorem lkX8_15 : MLU RX8 15 ⟨RX1, "bears", "(II)I"⟩ MX1_bears 2 := ⟨⟨w_400, w_1276, w_91, Or.inl rfl, w_384, w_4, w_385⟩, nX1_bears, by decide, by decide, rfl⟩
theorem lkX9_3 : Cond.methodLink RX9 3 Lib.objectInit ∈ gtbl ∧ Cond.instanceMethod Lib.objectInit ∈ gtbl ∧ Cond.code Lib.objectInit ⟨#[0xb1]⟩ 1 none ∈ gtbl := ⟨w_197, w_27, w_28⟩
theorem lkX9_22 : MLV RX9 22 MX9_nextToken 0 := ⟨⟨w_613, w_615, ws_5, w_11, w_616⟩, nX9_nextToken, by decide⟩
theorem lkX9_25 : MLV RX9 25 MX9_takeItem 1 := ⟨⟨w_628, w_630, ws_7, w_11, w_631⟩, nX9_takeItem, by decide⟩
theorem lkX9_35 : MLV RX9 35 MX9_kindNamed 0 := ⟨⟨w_632, w_634, ws_8, w_11, w_635⟩, nX9_kindNamed, by decide⟩
theorem lkX9_39 : MLV RX9 39 MX0_addGarment 1 := ⟨⟨w_694, w_317, w_318, w_8, w_319⟩, nX0_addGarment, by decide⟩
theorem lkX9_45 : MLV RX9 45 MX9_takeSpans 1 := ⟨⟨w_695, w_697, ws_10, w_11, w_698⟩, nX9_takeSpans, by decide⟩
theorem lkX9_49 : MLV RX9 49 MX9_takeThickness 1 := ⟨⟨w_709, w_711, ws_13, w_11, w_712⟩, nX9_takeThickness, by decide⟩
theorem lkX9_54 : MLV RX9 54 MX9_isWord 1 := ⟨⟨w_637, w_639, ws_9, w_11, w_640⟩, nX9_isWord, by decide⟩
theorem lkX9_58 : MLV RX9 58 MX9_takePerson 1 := ⟨⟨w_715, w_717, ws_14, w_11, w_718⟩, nX9_takePerson, by decide⟩
theorem lkX9_63 : MLV RX9 63 MX9_takeDegrees 1 := ⟨⟨w_721, w_723, ws_15, w_11, w_724⟩, nX9_takeDegrees, by decide⟩
theorem lkX9_68 : MLV RX9 68 MX9_takeWash 1 := ⟨⟨w_726, w_728, ws_16, w_11, w_729⟩, nX9_takeWash, by decide⟩
theorem lkX9_91 : MLV RX9 91 MX9_takeTwoSpans 0 := ⟨⟨w_700, w_702, ws_11, w_11, w_703⟩, nX9_takeTwoSpans, by decide⟩
theorem lkX9_111 : MLV RX9 111 MX9_isNumber 2 := ⟨⟨w_704, w_706, ws_12, w_11, w_707⟩, nX9_isNumber, by decide⟩
theorem lkX9_123 : MLV RX9 123 MX0_addPerson 2 := ⟨⟨w_719, w_484, w_485, w_8, w_486⟩, nX0_addPerson, by decide⟩
theorem lkX9_129 : MLV RX9 129 MX0_garmentAt 1 := ⟨⟨w_730, w_334, w_335, w_8, w_336⟩, nX0_garmentAt, by decide⟩
theorem lkX9_132 : MLV RX9 132 MX2_goThroughWash 2 := ⟨⟨w_731, w_438, w_439, w_9, w_440⟩, nX2_goThroughWash, by decide⟩
theorem lkX9_136 : MLN RX9 136 MX11_within 3 := ⟨⟨List.mem_of_getElem? (i := 4) rfl, w_277, w_1, w_278⟩, nX11_within, by decide⟩
theorem lkX9_140 : MLV RX9 140 MJ0_length_8abf5 0 := ⟨⟨w_641, w_642, w_643, w_16, w_644⟩, nJ0_length_8abf5, by decide⟩
theorem lkX9_144 : MLV RX9 144 MX9_byteAt 1 := ⟨⟨w_617, w_619, ws_6, w_11, w_620⟩, nX9_byteAt, by decide⟩
theorem lkX9_148 : MLV RX9 148 MJ0_charAt_5068e 1 := ⟨⟨w_651, w_652, w_653, w_16, w_654⟩, nJ0_charAt_5068e, by decide⟩
theorem lkX9_152 : MLS RX9 152 MX9_isLetter 1 := ⟨⟨w_621, w_622, w_11, w_623⟩, nX9_isLetter, by decide⟩
theorem lkX9_156 : MLS RX9 156 MX9_isDigit 1 := ⟨⟨w_624, w_625, w_11, w_626⟩, nX9_isDigit, by decide⟩
theorem lkX9_159 : Cond.methodLink RX9 159 Lib.Math.min.name ∈ gtbl ∧ Cond.static Lib.Math.min.name ∈ gtbl ∧ Cond.initialized "java/lang/Math" ∈ gtbl ∧ Cond.code Lib.Math.min.name Lib.Math.min.code 2 (some .int) ∈ gtbl := ⟨w_627, w_447, w_14, w_448⟩
theorem lkX10_1 : MLI RX10 1 MX4_init 2 := ⟨⟨w_51, w_35, w_2, w_36⟩, nX4_init, by decide, rfl, rfl⟩
theorem lkX10_7 : MLU RX10 7 ⟨RX4, "bears", "(II)I"⟩ MX4_bears 2 := ⟨⟨w_392, w_382, w_54, Or.inl rfl, w_380, w_2, w_402⟩, nX4_bears, by decide, by decide, rfl⟩
theorem lkX11_1 : Cond.methodLink RX11 1 Lib.objectInit ∈ gtbl ∧ Cond.instanceMethod Lib.objectInit ∈ gtbl ∧ Cond.code Lib.objectInit ⟨#[0xb1]⟩ 1 none ∈ gtbl := ⟨w_26, w_27, w_28⟩
theorem lkX11_7 : MLS RX11 7 MX4_inOrder 0 := ⟨⟨w_29, w_30, w_2, w_31⟩, nX4_inOrder, by decide⟩
theorem lkX11_15 : MLI RX11 15 MX0_init 1 := ⟨⟨w_94, w_95, w_8, w_96⟩, nX0_init, by decide, rfl, rfl⟩
theorem lkX11_32 : MLI RX11 32 MX2_init 1 := ⟨⟨w_191, w_102, w_9, w_103⟩, nX2_init, by decide, rfl, rfl⟩
theorem lkX11_41 : MLJ RX11 41 MX9_init 0 := ⟨⟨List.mem_of_getElem? (i := 1) rfl, w_195, w_11, w_196⟩, nX9_init, by decide, rfl, rfl⟩
theorem lkX11_52 : MLJ RX11 52 MX6_init 0 := ⟨⟨List.mem_of_getElem? (i := 2) rfl, w_229, w_12, w_230⟩, nX6_init, by decide, rfl, rfl⟩
theorem lkX11_61 : MLS RX11 61 MX11_within 3 := ⟨⟨w_276, w_277, w_1, w_278⟩, nX11_within, by decide⟩
theorem lkX11_73 : MLV RX11 73 MX11_refuse 1 := ⟨⟨w_280, w_282, ws_0, w_1, w_283⟩, nX11_refuse, by decide⟩
theorem lkX11_80 : MLV RX11 80 MX0_wetOnes 0 := ⟨⟨w_288, w_289, w_290, w_8, w_291⟩, nX0_wetOnes, by decide⟩
theorem lkX11_84 : MLV RX11 84 MX0_onesWithHoles 0 := ⟨⟨w_292, w_293, w_294, w_8, w_295⟩, nX0_onesWithHoles, by decide⟩
theorem lkX11_87 : MLV RX11 87 MX0_onesForAnybody 0 := ⟨⟨w_296, w_297, w_298, w_8, w_299⟩, nX0_onesForAnybody, by decide⟩
theorem lkX11_90 : MLS RX11 90 MX11_isKind 1 := ⟨⟨w_313, w_314, w_1, w_315⟩, nX11_isKind, by decide⟩
theorem lkX11_94 : MLV RX11 94 MX0_addGarment 1 := ⟨⟨w_316, w_317, w_318, w_8, w_319⟩, nX0_addGarment, by decide⟩
theorem lkX11_102 : MLV RX11 102 MX0_garmentAt 1 := ⟨⟨w_333, w_334, w_335, w_8, w_336⟩, nX0_garmentAt, by decide⟩
theorem lkX11_109_1 : MLO RX11 109 RX1 RX4 yX4_shrinks MX1_shrinks 2 := ⟨⟨w_337, w_340, w_338, ⟨_, _, _, w_358⟩, w_341, w_342, w_4, w_343⟩, nX4_shrinks, by decide⟩
theorem lkX11_109_3 : MLO RX11 109 RX3 RX4 yX4_shrinks MX3_shrinks 2 := ⟨⟨w_337, w_340, w_338, ⟨_, _, _, w_358⟩, w_344, w_345, w_6, w_346⟩, nX4_shrinks, by decide⟩
theorem lkX11_109_4 : MLO RX11 109 RX4 RX4 yX4_shrinks MX4_shrinks 2 := ⟨⟨w_337, w_340, w_338, ⟨_, _, _, w_358⟩, w_339, w_338, w_2, w_358⟩, nX4_shrinks, by decide⟩
theorem lkX11_109_7 : MLO RX11 109 RX7 RX4 yX4_shrinks MX7_shrinks 2 := ⟨⟨w_337, w_340, w_338, ⟨_, _, _, w_358⟩, w_350, w_351, w_5, w_352⟩, nX4_shrinks, by decide⟩
theorem lkX11_109_8 : MLO RX11 109 RX8 RX4 yX4_shrinks MX8_shrinks 2 := ⟨⟨w_337, w_340, w_338, ⟨_, _, _, w_358⟩, w_353, w_354, w_7, w_355⟩, nX4_shrinks, by decide⟩
theorem lkX11_109_10 : MLO RX11 109 RX10 RX4 yX4_shrinks MX10_shrinks 2 := ⟨⟨w_337, w_340, w_338, ⟨_, _, _, w_358⟩, w_357, w_348, w_3, w_349⟩, nX4_shrinks, by decide⟩
theorem lkX11_134_1 : MLO RX11 134 RX1 RX4 yX4_felts MX4_felts 1 := ⟨⟨w_359, w_362, w_360, ⟨_, _, _, w_378⟩, w_363, w_360, w_2, w_378⟩, nX4_felts, by decide⟩
theorem lkX11_134_3 : MLO RX11 134 RX3 RX4 yX4_felts MX3_felts 1 := ⟨⟨w_359, w_362, w_360, ⟨_, _, _, w_378⟩, w_364, w_365, w_6, w_366⟩, nX4_felts, by decide⟩
theorem lkX11_134_4 : MLO RX11 134 RX4 RX4 yX4_felts MX4_felts 1 := ⟨⟨w_359, w_362, w_360, ⟨_, _, _, w_378⟩, w_361, w_360, w_2, w_378⟩, nX4_felts, by decide⟩
theorem lkX11_134_7 : MLO RX11 134 RX7 RX4 yX4_felts MX4_felts 1 := ⟨⟨w_359, w_362, w_360, ⟨_, _, _, w_378⟩, w_370, w_360, w_2, w_378⟩, nX4_felts, by decide⟩
theorem lkX11_134_8 : MLO RX11 134 RX8 RX4 yX4_felts MX8_felts 1 := ⟨⟨w_359, w_362, w_360, ⟨_, _, _, w_378⟩, w_371, w_372, w_7, w_373⟩, nX4_felts, by decide⟩
theorem lkX11_134_10 : MLO RX11 134 RX10 RX4 yX4_felts MX10_felts 1 := ⟨⟨w_359, w_362, w_360, ⟨_, _, _, w_378⟩, w_377, w_368, w_3, w_369⟩, nX4_felts, by decide⟩
theorem lkX11_137_1 : MLO RX11 137 RX1 RX4 yX4_bears MX1_bears 2 := ⟨⟨w_379, w_382, w_380, ⟨_, _, _, w_402⟩, w_383, w_384, w_4, w_385⟩, nX4_bears, by decide⟩
theorem lkX11_137_3 : MLO RX11 137 RX3 RX4 yX4_bears MX3_bears 2 := ⟨⟨w_379, w_382, w_380, ⟨_, _, _, w_402⟩, w_386, w_387, w_6, w_388⟩, nX4_bears, by decide⟩
theorem lkX11_137_4 : MLO RX11 137 RX4 RX4 yX4_bears MX4_bears 2 := ⟨⟨w_379, w_382, w_380, ⟨_, _, _, w_402⟩, w_381, w_380, w_2, w_402⟩, nX4_bears, by decide⟩
theorem lkX11_137_7 : MLO RX11 137 RX7 RX4 yX4_bears MX7_bears 2 := ⟨⟨w_379, w_382, w_380, ⟨_, _, _, w_402⟩, w_393, w_394, w_5, w_395⟩, nX4_bears, by decide⟩
theorem lkX11_137_8 : MLO RX11 137 RX8 RX4 yX4_bears MX8_bears 2 := ⟨⟨w_379, w_382, w_380, ⟨_, _, _, w_402⟩, w_397, w_398, w_7, w_399⟩, nX4_bears, by decide⟩
theorem lkX11_137_10 : MLO RX11 137 RX10 RX4 yX4_bears MX10_bears 2 := ⟨⟨w_379, w_382, w_380, ⟨_, _, _, w_402⟩, w_401, w_390, w_3, w_391⟩, nX4_bears, by decide⟩
theorem lkX11_140_1 : MLO RX11 140 RX1 RX4 yX4_keeps MX1_keeps 0 := ⟨⟨w_403, w_406, w_404, ⟨_, _, _, w_422⟩, w_407, w_408, w_4, w_409⟩, nX4_keeps, by decide⟩
theorem lkX11_140_3 : MLO RX11 140 RX3 RX4 yX4_keeps MX3_keeps 0 := ⟨⟨w_403, w_406, w_404, ⟨_, _, _, w_422⟩, w_410, w_411, w_6, w_412⟩, nX4_keeps, by decide⟩
theorem lkX11_140_4 : MLO RX11 140 RX4 RX4 yX4_keeps MX4_keeps 0 := ⟨⟨w_403, w_406, w_404, ⟨_, _, _, w_422⟩, w_405, w_404, w_2, w_422⟩, nX4_keeps, by decide⟩
theorem lkX11_140_7 : MLO RX11 140 RX7 RX4 yX4_keeps MX7_keeps 0 := ⟨⟨w_403, w_406, w_404, ⟨_, _, _, w_422⟩, w_416, w_417, w_5, w_418⟩, nX4_keeps, by decide⟩
theorem lkX11_140_8 : MLO RX11 140 RX8 RX4 yX4_keeps MX1_keeps 0 := ⟨⟨w_403, w_406, w_404, ⟨_, _, _, w_422⟩, w_420, w_408, w_4, w_409⟩, nX4_keeps, by decide⟩
theorem lkX11_140_10 : MLO RX11 140 RX10 RX4 yX4_keeps MX4_keeps 0 := ⟨⟨w_403, w_406, w_404, ⟨_, _, _, w_422⟩, w_421, w_404, w_2, w_422⟩, nX4_keeps, by decide⟩
theorem lkX11_143 : MLS RX11 143 MX11_maySet 2 := ⟨⟨w_427, w_428, w_1, w_429⟩, nX11_maySet, by decide⟩
theorem lkX11_147 : MLV RX11 147 MX2_goThroughWash 2 := ⟨⟨w_437, w_438, w_439, w_9, w_440⟩, nX2_goThroughWash, by decide⟩
theorem lkX11_152 : MLV RX11 152 MX2_stretch 1 := ⟨⟨w_454, w_455, w_456, w_9, w_457⟩, nX2_stretch, by decide⟩
theorem lkX11_156 : MLV RX11 156 MX0_kindAt 1 := ⟨⟨w_463, w_321, w_322, w_8, w_323⟩, nX0_kindAt, by decide⟩
theorem lkX11_160_1 : MLO RX11 160 RX1 RX4 yX4_isOrIsUnder MX4_isOrIsUnder 1 := ⟨⟨w_468, w_471, w_469, ⟨_, _, _, w_477⟩, w_472, w_469, w_2, w_477⟩, nX4_isOrIsUnder, by decide⟩
theorem lkX11_160_3 : MLO RX11 160 RX3 RX4 yX4_isOrIsUnder MX4_isOrIsUnder 1 := ⟨⟨w_468, w_471, w_469, ⟨_, _, _, w_477⟩, w_473, w_469, w_2, w_477⟩, nX4_isOrIsUnder, by decide⟩
theorem lkX11_160_4 : MLO RX11 160 RX4 RX4 yX4_isOrIsUnder MX4_isOrIsUnder 1 := ⟨⟨w_468, w_471, w_469, ⟨_, _, _, w_477⟩, w_470, w_469, w_2, w_477⟩, nX4_isOrIsUnder, by decide⟩
theorem lkX11_160_7 : MLO RX11 160 RX7 RX4 yX4_isOrIsUnder MX4_isOrIsUnder 1 := ⟨⟨w_468, w_471, w_469, ⟨_, _, _, w_477⟩, w_474, w_469, w_2, w_477⟩, nX4_isOrIsUnder, by decide⟩
theorem lkX11_160_8 : MLO RX11 160 RX8 RX4 yX4_isOrIsUnder MX4_isOrIsUnder 1 := ⟨⟨w_468, w_471, w_469, ⟨_, _, _, w_477⟩, w_475, w_469, w_2, w_477⟩, nX4_isOrIsUnder, by decide⟩
theorem lkX11_160_10 : MLO RX11 160 RX10 RX4 yX4_isOrIsUnder MX4_isOrIsUnder 1 := ⟨⟨w_468, w_471, w_469, ⟨_, _, _, w_477⟩, w_476, w_469, w_2, w_477⟩, nX4_isOrIsUnder, by decide⟩
theorem lkX11_164 : MLS RX11 164 MX11_isSpan 1 := ⟨⟨w_430, w_431, w_1, w_432⟩, nX11_isSpan, by decide⟩
theorem lkX11_167 : MLV RX11 167 MX0_addPerson 2 := ⟨⟨w_483, w_484, w_485, w_8, w_486⟩, nX0_addPerson, by decide⟩
theorem lkX11_174 : MLV RX11 174 MX0_personAt 1 := ⟨⟨w_491, w_492, w_493, w_8, w_494⟩, nX0_personAt, by decide⟩
theorem lkX11_182 : MLV RX11 182 MX0_onesFor 1 := ⟨⟨w_499, w_301, w_302, w_8, w_303⟩, nX0_onesFor, by decide⟩
theorem lkX11_187 : MLV RX11 187 MX0_letDaysGo 1 := ⟨⟨w_505, w_506, w_507, w_8, w_508⟩, nX0_letDaysGo, by decide⟩
theorem lkX11_190 : MLV RX11 190 MX2_become 1 := ⟨⟨w_522, w_523, w_524, w_9, w_525⟩, nX2_become, by decide⟩
theorem lkX11_194 : MLV RX11 194 MX2_dryFor 1 := ⟨⟨w_526, w_510, w_511, w_9, w_512⟩, nX2_dryFor, by decide⟩
theorem lkX11_197 : MLV RX11 197 MX11_tryWashes 2 := ⟨⟨w_531, w_533, ws_2, w_1, w_534⟩, nX11_tryWashes, by decide⟩
theorem lkX11_201 : MLV RX11 201 MX11_wouldSuit 5 := ⟨⟨w_544, w_546, ws_3, w_1, w_547⟩, nX11_wouldSuit, by decide⟩
theorem lkX11_206 : MLV RX11 206 MX11_tryAs 2 := ⟨⟨w_562, w_564, ws_4, w_1, w_565⟩, nX11_tryAs, by decide⟩
theorem lkX11_210 : MLV RX11 210 MX2_goThroughWashes 3 := ⟨⟨w_535, w_536, w_537, w_9, w_538⟩, nX2_goThroughWashes, by decide⟩
theorem lkX11_214 : MLV RX11 214 MX0_become 1 := ⟨⟨w_570, w_571, w_572, w_8, w_573⟩, nX0_become, by decide⟩
theorem lkX11_217 : MLV RX11 217 MX0_bestDressed 0 := ⟨⟨w_575, w_576, w_577, w_8, w_578⟩, nX0_bestDressed, by decide⟩
theorem lkX11_223 : MLV RX11 223 MX9_append 1 := ⟨⟨w_593, w_594, w_595, w_11, w_596⟩, nX9_append, by decide⟩
theorem lkX11_227 : MLV RX11 227 MX9_clear 0 := ⟨⟨w_601, w_602, w_603, w_11, w_604⟩, nX9_clear, by decide⟩
theorem lkX11_230 : MLV RX11 230 MX9_tellInto 1 := ⟨⟨w_609, w_610, w_611, w_11, w_612⟩, nX9_tellInto, by decide⟩
theorem lkX11_234 : MLV RX11 234 MX11_sheetAt 1 := ⟨⟨w_738, w_740, ws_17, w_1, w_741⟩, nX11_sheetAt, by decide⟩
theorem lkX11_239 : MLV RX11 239 MX6_beginAnew 2 := ⟨⟨w_743, w_744, w_745, w_12, w_746⟩, nX6_beginAnew, by decide⟩
theorem lkX11_243 : MLV RX11 243 MX6_isMissing 0 := ⟨⟨w_751, w_752, w_753, w_12, w_754⟩, nX6_isMissing, by decide⟩
theorem lkX11_252 : MLV RX11 252 MX6_put 2 := ⟨⟨w_756, w_757, w_758, w_12, w_759⟩, nX6_put, by decide⟩
theorem lkX11_259 : MLV RX11 259 MX6_hasRun 2 := ⟨⟨w_768, w_769, w_770, w_12, w_771⟩, nX6_hasRun, by decide⟩
theorem lkX11_262 : Cond.methodLink RX11 262 arraycopyName ∈ gtbl ∧ Cond.native arraycopyName ∈ gtbl ∧ Cond.static arraycopyName ∈ gtbl ∧ Cond.initialized "java/lang/System" ∈ gtbl := ⟨w_772, w_774, w_773, w_20⟩
theorem lkX11_272 : MLV RX11 272 MX11_explains 4 := ⟨⟨w_789, w_791, ws_19, w_1, w_792⟩, nX11_explains, by decide⟩
theorem lkX11_276 : MLV RX11 276 MX0_allHoles 0 := ⟨⟨w_809, w_810, w_811, w_8, w_812⟩, nX0_allHoles, by decide⟩
theorem lkX11_279 : MLV RX11 279 MX2_suits 1 := ⟨⟨w_548, w_305, w_306, w_9, w_307⟩, nX2_suits, by decide⟩
theorem lkJ0_335 : MLV RJ0 335 MJ0_coder_7d493 0 := ⟨⟨w_645, w_646, w_647, w_16, w_648⟩, nJ0_coder_7d493, by decide⟩
theorem lkJ0_492 : MLV RJ0 492 MJ0_isLatin1_aae02 0 := ⟨⟨w_655, w_656, w_657, w_16, w_658⟩, nJ0_isLatin1_aae02, by decide⟩
theorem lkJ0_495 : MLS RJ0 495 MJ1_charAt_3b067 2 := ⟨⟨w_659, w_660, w_17, w_661⟩, nJ1_charAt_3b067, by decide⟩
theorem lkJ0_498 : MLS RJ0 498 MJ2_charAt_3b067 2 := ⟨⟨w_670, w_671, w_19, w_672⟩, nJ2_charAt_3b067, by decide⟩
theorem lkJ0_1059 : MLS RJ0 1059 MJ3_checkIndex_8e157 3 := ⟨⟨w_667, w_668, w_18, w_669⟩, nJ3_checkIndex_8e157, by decide⟩
theorem lkJ1_9 : MLS RJ1 9 MJ0_checkIndex_df160 2 := ⟨⟨w_662, w_663, w_16, w_664⟩, nJ0_checkIndex_df160, by decide⟩
theorem lkJ2_48 : MLS RJ2 48 MJ2_length_9d52b 1 := ⟨⟨w_676, w_677, w_19, w_678⟩, nJ2_length_9d52b, by decide⟩
theorem lkJ2_67 : MLS RJ2 67 MJ2_checkIndex_2214a 2 := ⟨⟨w_673, w_674, w_19, w_675⟩, nJ2_checkIndex_2214a, by decide⟩
theorem lkJ2_71 : MLS RJ2 71 MJ2_getChar_3b067 2 := ⟨⟨w_680, w_681, w_19, w_682⟩, nJ2_getChar_3b067, by decide⟩
theorem lkJ2_414 : MLS RJ2 414 MJ0_checkIndex_df160 2 := ⟨⟨w_679, w_663, w_16, w_664⟩, nJ0_checkIndex_df160, by decide⟩
theorem lkX12_1 : Cond.methodLink RX12 1 Lib.objectInit ∈ gtbl ∧ Cond.instanceMethod Lib.objectInit ∈ gtbl ∧ Cond.code Lib.objectInit ⟨#[0xb1]⟩ 1 none ∈ gtbl := ⟨w_822, w_27, w_28⟩
theorem lkX12_42 : MLS RX12 42 MX12_spot 2 := ⟨⟨w_902, w_903, w_13, w_904⟩, nX12_spot, by decide⟩
theorem lkX12_46 : MLS RX12 46 MX12_in 3 := ⟨⟨w_878, w_879, w_13, w_880⟩, nX12_in, by decide⟩
theorem lkX12_60 : MLV RX12 60 MX12_becomes 2 := ⟨⟨w_881, w_883, ws_20, w_13, w_884⟩, nX12_becomes, by decide⟩
theorem lkX12_63 : MLV RX12 63 MX12_finds 1 := ⟨⟨w_886, w_888, ws_21, w_13, w_889⟩, nX12_finds, by decide⟩
theorem lkX12_67 : MLV RX12 67 MX12_its 2 := ⟨⟨w_898, w_900, ws_23, w_13, w_901⟩, nX12_its, by decide⟩
theorem lkX12_70 : MLV RX12 70 MX12_sizeOfOne 2 := ⟨⟨w_921, w_923, ws_28, w_13, w_924⟩, nX12_sizeOfOne, by decide⟩
theorem lkX12_75 : MLV RX12 75 MX12_isFitting 2 := ⟨⟨w_917, w_919, ws_27, w_13, w_920⟩, nX12_isFitting, by decide⟩
theorem lkX12_79 : MLV RX12 79 MX12_fittingOnes 1 := ⟨⟨w_913, w_915, ws_26, w_13, w_916⟩, nX12_fittingOnes, by decide⟩
theorem lkX12_82 : MLV RX12 82 MX12_wetOnes 0 := ⟨⟨w_894, w_896, ws_22, w_13, w_897⟩, nX12_wetOnes, by decide⟩
theorem lkX12_86 : MLV RX12 86 MX12_holedOnes 0 := ⟨⟨w_905, w_907, ws_24, w_13, w_908⟩, nX12_holedOnes, by decide⟩
theorem lkX12_89 : MLV RX12 89 MX12_fittingAny 0 := ⟨⟨w_909, w_911, ws_25, w_13, w_912⟩, nX12_fittingAny, by decide⟩
theorem lkX12_92 : MLV RX12 92 MX12_shrinksOf 1 := ⟨⟨w_948, w_950, ws_31, w_13, w_951⟩, nX12_shrinksOf, by decide⟩
theorem lkX12_95 : MLS RX12 95 MX12_isKind 1 := ⟨⟨w_931, w_932, w_13, w_933⟩, nX12_isKind, by decide⟩
theorem lkX12_100 : MLV RX12 100 MX12_adds 1 := ⟨⟨w_936, w_938, ws_29, w_13, w_939⟩, nX12_adds, by decide⟩
theorem lkX12_103 : MLV RX12 103 MX12_isGarment 1 := ⟨⟨w_944, w_946, ws_30, w_13, w_947⟩, nX12_isGarment, by decide⟩
theorem lkX12_106 : MLV RX12 106 MX12_feltsOf 1 := ⟨⟨w_952, w_954, ws_32, w_13, w_955⟩, nX12_feltsOf, by decide⟩
theorem lkX12_109 : MLV RX12 109 MX12_bearsOf 1 := ⟨⟨w_956, w_958, ws_33, w_13, w_959⟩, nX12_bearsOf, by decide⟩
theorem lkX12_112 : MLV RX12 112 MX12_keepsOf 1 := ⟨⟨w_960, w_962, ws_34, w_13, w_963⟩, nX12_keepsOf, by decide⟩
theorem lkX12_115 : MLS RX12 115 MX12_isSize 1 := ⟨⟨w_971, w_972, w_13, w_973⟩, nX12_isSize, by decide⟩
theorem lkX12_123 : MLS RX12 123 MX12_isSet 2 := ⟨⟨w_968, w_969, w_13, w_970⟩, nX12_isSet, by decide⟩
theorem lkX12_126 : MLS RX12 126 MX12_held 3 := ⟨⟨w_989, w_990, w_13, w_991⟩, nX12_held, by decide⟩
theorem lkX12_130 : MLV RX12 130 MX12_shrinks 3 := ⟨⟨w_985, w_987, ws_36, w_13, w_988⟩, nX12_shrinks, by decide⟩
theorem lkX12_134 : MLV RX12 134 MX12_washed 1 := ⟨⟨w_981, w_983, ws_35, w_13, w_984⟩, nX12_washed, by decide⟩
theorem lkX12_140 : MLV RX12 140 MX12_drawn 2 := ⟨⟨w_998, w_1000, ws_37, w_13, w_1001⟩, nX12_drawn, by decide⟩
theorem lkX12_143 : MLS RX12 143 MX12_isUnder 2 := ⟨⟨w_1010, w_1011, w_13, w_1012⟩, nX12_isUnder, by decide⟩
theorem lkX12_147 : MLV RX12 147 MX12_addsPerson 2 := ⟨⟨w_1018, w_1020, ws_38, w_13, w_1021⟩, nX12_addsPerson, by decide⟩
theorem lkX12_150 : MLV RX12 150 MX12_isPerson 1 := ⟨⟨w_1026, w_1028, ws_39, w_13, w_1029⟩, nX12_isPerson, by decide⟩
theorem lkX12_153 : MLV RX12 153 MX12_dries 1 := ⟨⟨w_1044, w_1046, ws_41, w_13, w_1047⟩, nX12_dries, by decide⟩
theorem lkX12_160 : MLV RX12 160 MX12_daysGo 1 := ⟨⟨w_1040, w_1042, ws_40, w_13, w_1043⟩, nX12_daysGo, by decide⟩
theorem lkX12_163 : MLS RX12 163 MX12_isAhead 1 := ⟨⟨w_1052, w_1053, w_13, w_1054⟩, nX12_isAhead, by decide⟩
theorem lkX12_168 : MLV RX12 168 MX12_laysAside 0 := ⟨⟨w_1056, w_1058, ws_42, w_13, w_1059⟩, nX12_laysAside, by decide⟩
theorem lkX12_171 : MLV RX12 171 MX12_takesBack 1 := ⟨⟨w_1060, w_1062, ws_43, w_13, w_1063⟩, nX12_takesBack, by decide⟩
theorem lkX12_174 : MLV RX12 174 MX12_isWashed 2 := ⟨⟨w_1073, w_1075, ws_45, w_13, w_1076⟩, nX12_isWashed, by decide⟩
theorem lkX12_180 : MLV RX12 180 MX12_washedTo 3 := ⟨⟨w_1069, w_1071, ws_44, w_13, w_1072⟩, nX12_washedTo, by decide⟩
theorem lkX12_183 : MLV RX12 183 MX12_isFittingBy 4 := ⟨⟨w_1081, w_1083, ws_46, w_13, w_1084⟩, nX12_isFittingBy, by decide⟩
theorem lkX12_188 : MLV RX12 188 MX12_manyFitting 1 := ⟨⟨w_1102, w_1104, ws_47, w_13, w_1105⟩, nX12_manyFitting, by decide⟩
theorem lkX12_211 : MLV RX12 211 MX12_byteAt 1 := ⟨⟨w_1131, w_1133, ws_50, w_13, w_1134⟩, nX12_byteAt, by decide⟩
theorem lkX12_214 : MLS RX12 214 MX12_isLetter 1 := ⟨⟨w_1135, w_1136, w_13, w_1137⟩, nX12_isLetter, by decide⟩
theorem lkX12_217 : MLS RX12 217 MX12_isDigit 1 := ⟨⟨w_1140, w_1141, w_13, w_1142⟩, nX12_isDigit, by decide⟩
theorem lkX12_224 : MLV RX12 224 MX12_token 0 := ⟨⟨w_1127, w_1129, ws_49, w_13, w_1130⟩, nX12_token, by decide⟩
theorem lkX12_234 : MLV RX12 234 MX12_must 1 := ⟨⟨w_1169, w_1171, ws_55, w_13, w_1172⟩, nX12_must, by decide⟩
theorem lkX12_238 : MLV RX12 238 MX12_word 0 := ⟨⟨w_1153, w_1155, ws_53, w_13, w_1156⟩, nX12_word, by decide⟩
theorem lkX12_256 : MLV RX12 256 MX12_number 2 := ⟨⟨w_1174, w_1176, ws_56, w_13, w_1177⟩, nX12_number, by decide⟩
theorem lkX12_261 : MLV RX12 261 MX12_kindHere 0 := ⟨⟨w_1149, w_1151, ws_52, w_13, w_1152⟩, nX12_kindHere, by decide⟩
theorem lkX12_264 : MLV RX12 264 MX12_garmentItem 1 := ⟨⟨w_1165, w_1167, ws_54, w_13, w_1168⟩, nX12_garmentItem, by decide⟩
theorem lkX12_269 : MLV RX12 269 MX12_personItem 0 := ⟨⟨w_1180, w_1182, ws_57, w_13, w_1183⟩, nX12_personItem, by decide⟩
theorem lkX12_274 : MLV RX12 274 MX12_degreesItem 0 := ⟨⟨w_1185, w_1187, ws_58, w_13, w_1188⟩, nX12_degreesItem, by decide⟩
theorem lkX12_281 : MLV RX12 281 MX12_towelItem 1 := ⟨⟨w_1191, w_1193, ws_59, w_13, w_1194⟩, nX12_towelItem, by decide⟩
theorem lkX12_286 : MLV RX12 286 MX12_washItem 0 := ⟨⟨w_1196, w_1198, ws_60, w_13, w_1199⟩, nX12_washItem, by decide⟩
theorem lkX12_289 : MLV RX12 289 MX12_saves 0 := ⟨⟨w_1123, w_1125, ws_48, w_13, w_1126⟩, nX12_saves, by decide⟩
theorem lkX12_292 : MLV RX12 292 MX12_item 0 := ⟨⟨w_1145, w_1147, ws_51, w_13, w_1148⟩, nX12_item, by decide⟩
theorem lkX12_295 : MLV RX12 295 MX12_putsBack 0 := ⟨⟨w_1200, w_1202, ws_61, w_13, w_1203⟩, nX12_putsBack, by decide⟩
theorem lkX12_300 : MLS RX12 300 MX12_isOne 1 := ⟨⟨w_1208, w_1209, w_13, w_1210⟩, nX12_isOne, by decide⟩
theorem lkX12_305 : MLV RX12 305 MX12_wrongSheet 1 := ⟨⟨w_1217, w_1219, ws_62, w_13, w_1220⟩, nX12_wrongSheet, by decide⟩
theorem lkX12_308 : MLS RX12 308 MX12_narrowed 2 := ⟨⟨w_1222, w_1223, w_13, w_1224⟩, nX12_narrowed, by decide⟩
theorem lkX12_312 : MLV RX12 312 MX12_isBook 2 := ⟨⟨w_1241, w_1243, ws_63, w_13, w_1244⟩, nX12_isBook, by decide⟩
theorem lkX12_318 : MLV RX12 318 MX12_holes 0 := ⟨⟨w_1261, w_1263, ws_64, w_13, w_1264⟩, nX12_holes, by decide⟩
theorem lkL_9 : MLI RL 9 MX11_init 0 := ⟨⟨w_23, w_24, w_1, w_25⟩, nX11_init, by decide, rfl, rfl⟩
theorem lkL_12 : MLI RL 12 MX12_init 0 := ⟨⟨w_819, w_820, w_13, w_821⟩, nX12_init, by decide, rfl, rfl⟩
theorem lkL_13 : MLV RL 13 MX11_machine 2 := ⟨⟨w_272, w_273, w_274, w_1, w_275⟩, nX11_machine, by decide⟩
theorem lkL_17 : MLV RL 17 MX12_machine 2 := ⟨⟨w_872, w_873, w_874, w_13, w_875⟩, nX12_machine, by decide⟩
theorem lkL_18 : MLV RL 18 MX11_now 1 := ⟨⟨w_284, w_285, w_286, w_1, w_287⟩, nX11_now, by decide⟩
theorem lkL_22 : MLV RL 22 MX12_now 1 := ⟨⟨w_890, w_891, w_892, w_13, w_893⟩, nX12_now, by decide⟩
theorem lkL_23 : MLV RL 23 MX11_garment 1 := ⟨⟨w_309, w_310, w_311, w_1, w_312⟩, nX11_garment, by decide⟩
theorem lkL_26 : MLV RL 26 MX12_garment 1 := ⟨⟨w_927, w_928, w_929, w_13, w_930⟩, nX12_garment, by decide⟩
theorem lkL_27 : MLV RL 27 MX11_of 2 := ⟨⟨w_329, w_330, w_331, w_1, w_332⟩, nX11_of, by decide⟩
theorem lkL_30 : MLV RL 30 MX12_of 2 := ⟨⟨w_940, w_941, w_942, w_13, w_943⟩, nX12_of, by decide⟩
theorem lkL_31 : MLV RL 31 MX11_set 3 := ⟨⟨w_423, w_424, w_425, w_1, w_426⟩, nX11_set, by decide⟩
theorem lkL_35 : MLV RL 35 MX12_set 3 := ⟨⟨w_964, w_965, w_966, w_13, w_967⟩, nX12_set, by decide⟩
theorem lkL_36 : MLV RL 36 MX11_wash 1 := ⟨⟨w_433, w_434, w_435, w_1, w_436⟩, nX11_wash, by decide⟩
theorem lkL_39 : MLV RL 39 MX12_wash 1 := ⟨⟨w_977, w_978, w_979, w_13, w_980⟩, nX12_wash, by decide⟩
theorem lkL_40 : MLV RL 40 MX11_draw 2 := ⟨⟨w_449, w_450, w_451, w_1, w_452⟩, nX11_draw, by decide⟩
theorem lkL_43 : MLV RL 43 MX12_draw 2 := ⟨⟨w_992, w_993, w_994, w_13, w_995⟩, nX12_draw, by decide⟩
theorem lkL_44 : MLV RL 44 MX11_turn 2 := ⟨⟨w_459, w_460, w_461, w_1, w_462⟩, nX11_turn, by decide⟩
theorem lkL_47 : MLV RL 47 MX12_turn 2 := ⟨⟨w_1002, w_1003, w_1004, w_13, w_1005⟩, nX12_turn, by decide⟩
theorem lkL_48 : MLV RL 48 MX11_as 2 := ⟨⟨w_464, w_465, w_466, w_1, w_467⟩, nX11_as, by decide⟩
theorem lkL_51 : MLV RL 51 MX12_as 2 := ⟨⟨w_1006, w_1007, w_1008, w_13, w_1009⟩, nX12_as, by decide⟩
theorem lkL_52 : MLV RL 52 MX11_person 2 := ⟨⟨w_479, w_480, w_481, w_1, w_482⟩, nX11_person, by decide⟩
theorem lkL_55 : MLV RL 55 MX12_person 2 := ⟨⟨w_1014, w_1015, w_1016, w_13, w_1017⟩, nX12_person, by decide⟩
theorem lkL_56 : MLV RL 56 MX11_size 2 := ⟨⟨w_487, w_488, w_489, w_1, w_490⟩, nX11_size, by decide⟩
theorem lkL_59 : MLV RL 59 MX12_size 2 := ⟨⟨w_1022, w_1023, w_1024, w_13, w_1025⟩, nX12_size, by decide⟩
theorem lkL_60 : MLV RL 60 MX11_fits 1 := ⟨⟨w_495, w_496, w_497, w_1, w_498⟩, nX11_fits, by decide⟩
theorem lkL_63 : MLV RL 63 MX12_fits 1 := ⟨⟨w_1030, w_1031, w_1032, w_13, w_1033⟩, nX12_fits, by decide⟩
theorem lkL_64 : MLV RL 64 MX11_days 1 := ⟨⟨w_500, w_501, w_502, w_1, w_503⟩, nX11_days, by decide⟩
theorem lkL_67 : MLV RL 67 MX12_days 1 := ⟨⟨w_1034, w_1035, w_1036, w_13, w_1037⟩, nX12_days, by decide⟩
theorem lkL_68 : MLV RL 68 MX11_on 3 := ⟨⟨w_518, w_519, w_520, w_1, w_521⟩, nX11_on, by decide⟩
theorem lkL_71 : MLV RL 71 MX12_on 3 := ⟨⟨w_1048, w_1049, w_1050, w_13, w_1051⟩, nX12_on, by decide⟩
theorem lkL_72 : MLV RL 72 MX11_again 3 := ⟨⟨w_527, w_528, w_529, w_1, w_530⟩, nX11_again, by decide⟩
theorem lkL_75 : MLV RL 75 MX12_again 3 := ⟨⟨w_1064, w_1065, w_1066, w_13, w_1067⟩, nX12_again, by decide⟩
theorem lkL_76 : MLV RL 76 MX11_washes 2 := ⟨⟨w_540, w_541, w_542, w_1, w_543⟩, nX11_washes, by decide⟩
theorem lkL_79 : MLV RL 79 MX12_washes 2 := ⟨⟨w_1077, w_1078, w_1079, w_13, w_1080⟩, nX12_washes, by decide⟩
theorem lkL_80 : MLV RL 80 MX11_warmest 2 := ⟨⟨w_550, w_551, w_552, w_1, w_553⟩, nX11_warmest, by decide⟩
theorem lkL_83 : MLV RL 83 MX12_warmest 2 := ⟨⟨w_1086, w_1087, w_1088, w_13, w_1089⟩, nX12_warmest, by decide⟩
theorem lkL_84 : MLV RL 84 MX11_pull 2 := ⟨⟨w_554, w_555, w_556, w_1, w_557⟩, nX11_pull, by decide⟩
theorem lkL_87 : MLV RL 87 MX12_pull 2 := ⟨⟨w_1090, w_1091, w_1092, w_13, w_1093⟩, nX12_pull, by decide⟩
theorem lkL_88 : MLV RL 88 MX11_kind 2 := ⟨⟨w_558, w_559, w_560, w_1, w_561⟩, nX11_kind, by decide⟩
theorem lkL_91 : MLV RL 91 MX12_kind 2 := ⟨⟨w_1094, w_1095, w_1096, w_13, w_1097⟩, nX12_kind, by decide⟩
theorem lkL_92 : MLV RL 92 MX11_dressed 1 := ⟨⟨w_566, w_567, w_568, w_1, w_569⟩, nX11_dressed, by decide⟩
theorem lkL_95 : MLV RL 95 MX12_dressed 1 := ⟨⟨w_1098, w_1099, w_1100, w_13, w_1101⟩, nX12_dressed, by decide⟩
theorem lkL_96 : MLV RL 96 MX11_shortest 1 := ⟨⟨w_585, w_586, w_587, w_1, w_588⟩, nX11_shortest, by decide⟩
theorem lkL_99 : MLV RL 99 MX12_shortest 1 := ⟨⟨w_1106, w_1107, w_1108, w_13, w_1109⟩, nX12_shortest, by decide⟩
theorem lkL_100 : MLV RL 100 MX11_feed 2 := ⟨⟨w_589, w_590, w_591, w_1, w_592⟩, nX11_feed, by decide⟩
theorem lkL_103 : MLV RL 103 MX12_feed 2 := ⟨⟨w_1110, w_1111, w_1112, w_13, w_1113⟩, nX12_feed, by decide⟩
theorem lkL_104 : MLV RL 104 MX11_wipe 0 := ⟨⟨w_597, w_598, w_599, w_1, w_600⟩, nX11_wipe, by decide⟩
theorem lkL_108 : MLV RL 108 MX12_wipe 0 := ⟨⟨w_1115, w_1116, w_1117, w_13, w_1118⟩, nX12_wipe, by decide⟩
theorem lkL_109 : MLV RL 109 MX11_basket 0 := ⟨⟨w_605, w_606, w_607, w_1, w_608⟩, nX11_basket, by decide⟩
theorem lkL_112 : MLV RL 112 MX12_basket 0 := ⟨⟨w_1119, w_1120, w_1121, w_13, w_1122⟩, nX12_basket, by decide⟩
theorem lkL_113 : MLV RL 113 MX11_sheet 3 := ⟨⟨w_734, w_735, w_736, w_1, w_737⟩, nX11_sheet, by decide⟩
theorem lkL_116 : MLV RL 116 MX12_sheet 3 := ⟨⟨w_1204, w_1205, w_1206, w_13, w_1207⟩, nX12_sheet, by decide⟩
theorem lkL_119 : MLV RL 119 MX11_write 3 := ⟨⟨w_747, w_748, w_749, w_1, w_750⟩, nX11_write, by decide⟩
theorem lkL_123 : MLV RL 123 MX12_write 3 := ⟨⟨w_1213, w_1214, w_1215, w_13, w_1216⟩, nX12_write, by decide⟩
theorem lkL_124 : MLV RL 124 MX11_copy 5 := ⟨⟨w_764, w_765, w_766, w_1, w_767⟩, nX11_copy, by decide⟩
theorem lkL_128 : MLV RL 128 MX12_copy 5 := ⟨⟨w_1225, w_1226, w_1227, w_13, w_1228⟩, nX12_copy, by decide⟩
theorem lkL_129 : MLV RL 129 MX11_lays 1 := ⟨⟨w_775, w_776, w_777, w_1, w_778⟩, nX11_lays, by decide⟩
theorem lkL_132 : MLV RL 132 MX12_lays 1 := ⟨⟨w_1229, w_1230, w_1231, w_13, w_1232⟩, nX12_lays, by decide⟩
theorem lkL_133 : MLV RL 133 MX11_book 2 := ⟨⟨w_781, w_782, w_783, w_1, w_784⟩, nX11_book, by decide⟩
theorem lkL_136 : MLV RL 136 MX12_book 2 := ⟨⟨w_1233, w_1234, w_1235, w_13, w_1236⟩, nX12_book, by decide⟩
theorem lkL_137 : MLV RL 137 MX11_read 2 := ⟨⟨w_785, w_786, w_787, w_1, w_788⟩, nX11_read, by decide⟩
theorem lkL_140 : MLV RL 140 MX12_read 2 := ⟨⟨w_1237, w_1238, w_1239, w_13, w_1240⟩, nX12_read, by decide⟩
theorem lkL_141 : MLV RL 141 MX11_image 0 := ⟨⟨w_793, w_794, w_795, w_1, w_796⟩, nX11_image, by decide⟩
theorem lkL_144 : MLV RL 144 MX12_image 0 := ⟨⟨w_1245, w_1246, w_1247, w_13, w_1248⟩, nX12_image, by decide⟩
theorem lkL_145 : MLV RL 145 MX11_undo 0 := ⟨⟨w_797, w_798, w_799, w_1, w_800⟩, nX11_undo, by decide⟩
theorem lkL_148 : MLV RL 148 MX12_undo 0 := ⟨⟨w_1249, w_1250, w_1251, w_13, w_1252⟩, nX12_undo, by decide⟩
theorem lkL_149 : MLV RL 149 MX11_tear 0 := ⟨⟨w_801, w_802, w_803, w_1, w_804⟩, nX11_tear, by decide⟩
theorem lkL_152 : MLV RL 152 MX12_tear 0 := ⟨⟨w_1253, w_1254, w_1255, w_13, w_1256⟩, nX12_tear, by decide⟩
theorem lkL_153 : MLV RL 153 MX11_count 1 := ⟨⟨w_805, w_806, w_807, w_1, w_808⟩, nX11_count, by decide⟩
theorem lkL_156 : MLV RL 156 MX12_count 1 := ⟨⟨w_1257, w_1258, w_1259, w_13, w_1260⟩, nX12_count, by decide⟩
theorem lkL_157 : MLV RL 157 MX11_status 1 := ⟨⟨w_813, w_814, w_815, w_1, w_816⟩, nX11_status, by decide⟩
theorem lkL_160 : MLV RL 160 MX12_status 1 := ⟨⟨w_1265, w_1266, w_1267, w_13, w_1268⟩, nX12_status, by decide⟩
