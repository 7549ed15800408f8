def RX0 : String := "WakeVillage$Command"
def TX0 : u_T := fun k => match k with
  | 0 => ("WakeVillage$Command", "kind", "I", false)
  | 1 => ("WakeVillage$Command", "number", "I", false)
  | 2 => ("WakeVillage$Command", "node", "I", false)
  | 3 => ("WakeVillage$Command", "other", "I", false)
  | 4 => ("WakeVillage$Command", "behind", "I", false)
  | 5 => ("WakeVillage$Command", "outer", "I", false)
  | _ => ("WakeVillage$Command", "left", "I", false)
def tyX0 : Nat → FieldType := fun k => match k with
  | 0 => .int
  | 1 => .int
  | 2 => .int
  | 3 => .int
  | 4 => .int
  | 5 => .int
  | _ => .int
abbrev cX0_init : ByteArray := prog_2_method_1_code
def yX0_init : MethodName := ⟨RX0, "<init>", "()V"⟩
def RX1 : String := "WakeVillage$Forecast"
def TX1 : u_T := fun k => match k with
  | _ => ("WakeVillage$Forecast", "trial", "LWakeVillage$Village;", true)
def tyX1 : Nat → FieldType := fun k => match k with
  | _ => .object "WakeVillage$Village"
abbrev cX1_init : ByteArray := prog_3_method_1_code
def yX1_init : MethodName := ⟨RX1, "<init>", "()V"⟩
abbrev cX1_ticksToArrival : ByteArray := prog_3_method_2_code
def yX1_ticksToArrival : MethodName := ⟨RX1, "ticksToArrival", "(LWakeVillage$Village;I)I"⟩
abbrev cX1_ticksIfSent : ByteArray := prog_3_method_3_code
def yX1_ticksIfSent : MethodName := ⟨RX1, "ticksIfSent", "(LWakeVillage$Village;IIZ)I"⟩
abbrev cX1_sendInThought : ByteArray := prog_3_method_4_code
def yX1_sendInThought : MethodName := ⟨RX1, "sendInThought", "(LWakeVillage$Village;IIZ)I"⟩
abbrev cX1_trialArrival : ByteArray := prog_3_method_5_code
def yX1_trialArrival : MethodName := ⟨RX1, "trialArrival", "(II)I"⟩
abbrev cX1_ticksToOut : ByteArray := prog_3_method_6_code
def yX1_ticksToOut : MethodName := ⟨RX1, "ticksToOut", "(LWakeVillage$Village;I)I"⟩
abbrev cX1_energyAfter : ByteArray := prog_3_method_7_code
def yX1_energyAfter : MethodName := ⟨RX1, "energyAfter", "(LWakeVillage$Village;II)I"⟩
def RX2 : String := "WakeVillage$History"
def TX2 : u_T := fun k => match k with
  | 0 => ("WakeVillage$History", "kept", "[LWakeVillage$Village;", true)
  | 1 => ("WakeVillage$History", "slot", "I", false)
  | _ => ("WakeVillage$History", "many", "I", false)
def tyX2 : Nat → FieldType := fun k => match k with
  | 0 => .array (.object "WakeVillage$Village")
  | 1 => .int
  | _ => .int
abbrev cX2_init : ByteArray := prog_4_method_1_code
def yX2_init : MethodName := ⟨RX2, "<init>", "()V"⟩
abbrev cX2_forget : ByteArray := prog_4_method_2_code
def yX2_forget : MethodName := ⟨RX2, "forget", "()V"⟩
abbrev cX2_keep : ByteArray := prog_4_method_3_code
def yX2_keep : MethodName := ⟨RX2, "keep", "(LWakeVillage$Village;)V"⟩
abbrev cX2_takeBack : ByteArray := prog_4_method_4_code
def yX2_takeBack : MethodName := ⟨RX2, "takeBack", "(LWakeVillage$Village;)Z"⟩
def RX3 : String := "WakeVillage$Link"
def TX3 : u_T := fun k => match k with
  | 0 => ("WakeVillage$Link", "first", "I", false)
  | 1 => ("WakeVillage$Link", "second", "I", false)
  | 2 => ("WakeVillage$Link", "misses", "I", false)
  | 3 => ("WakeVillage$Link", "met", "I", false)
  | _ => ("WakeVillage$Link", "missed", "I", false)
def tyX3 : Nat → FieldType := fun k => match k with
  | 0 => .int
  | 1 => .int
  | 2 => .int
  | 3 => .int
  | _ => .int
abbrev cX3_init : ByteArray := prog_5_method_1_code
def yX3_init : MethodName := ⟨RX3, "<init>", "()V"⟩
abbrev cX3_copyFrom : ByteArray := prog_5_method_2_code
def yX3_copyFrom : MethodName := ⟨RX3, "copyFrom", "(LWakeVillage$Link;)V"⟩
abbrev cX3_figure : ByteArray := prog_5_method_3_code
def yX3_figure : MethodName := ⟨RX3, "figure", "(I)I"⟩
def RX4 : String := "WakeVillage$Message"
def TX4 : u_T := fun k => match k with
  | 0 => ("WakeVillage$Message", "from", "I", false)
  | 1 => ("WakeVillage$Message", "goal", "I", false)
  | 2 => ("WakeVillage$Message", "at", "I", false)
  | 3 => ("WakeVillage$Message", "state", "I", false)
  | 4 => ("WakeVillage$Message", "due", "I", false)
  | 5 => ("WakeVillage$Message", "thereAt", "I", false)
  | 6 => ("WakeVillage$Message", "passes", "I", false)
  | _ => ("WakeVillage$Message", "isUrgent", "Z", false)
def tyX4 : Nat → FieldType := fun k => match k with
  | 0 => .int
  | 1 => .int
  | 2 => .int
  | 3 => .int
  | 4 => .int
  | 5 => .int
  | 6 => .int
  | _ => .boolean
abbrev cX4_init : ByteArray := prog_6_method_1_code
def yX4_init : MethodName := ⟨RX4, "<init>", "()V"⟩
abbrev cX4_copyFrom : ByteArray := prog_6_method_2_code
def yX4_copyFrom : MethodName := ⟨RX4, "copyFrom", "(LWakeVillage$Message;)V"⟩
abbrev cX4_figure : ByteArray := prog_6_method_3_code
def yX4_figure : MethodName := ⟨RX4, "figure", "(I)I"⟩
def RX5 : String := "WakeVillage$Node"
def TX5 : u_T := fun k => match k with
  | 0 => ("WakeVillage$Node", "name", "J", false)
  | 1 => ("WakeVillage$Node", "watched", "J", false)
  | 2 => ("WakeVillage$Node", "born", "I", false)
  | 3 => ("WakeVillage$Node", "shift", "I", false)
  | 4 => ("WakeVillage$Node", "energy", "I", false)
  | 5 => ("WakeVillage$Node", "linked", "I", false)
  | 6 => ("WakeVillage$Node", "awakeTicks", "I", false)
  | 7 => ("WakeVillage$Node", "passed", "I", false)
  | 8 => ("WakeVillage$Node", "got", "I", false)
  | _ => ("WakeVillage$Node", "dayAtWaking", "I", false)
def tyX5 : Nat → FieldType := fun k => match k with
  | 0 => .long
  | 1 => .long
  | 2 => .int
  | 3 => .int
  | 4 => .int
  | 5 => .int
  | 6 => .int
  | 7 => .int
  | 8 => .int
  | _ => .int
abbrev cX5_init : ByteArray := prog_7_method_1_code
def yX5_init : MethodName := ⟨RX5, "<init>", "()V"⟩
abbrev cX5_copyFrom : ByteArray := prog_7_method_2_code
def yX5_copyFrom : MethodName := ⟨RX5, "copyFrom", "(LWakeVillage$Node;)V"⟩
def RX6 : String := "WakeVillage$Report"
def TX6 : u_T := fun k => match k with
  | 0 => ("WakeVillage$Report", "bytes", "[B", true)
  | _ => ("WakeVillage$Report", "length", "I", false)
def tyX6 : Nat → FieldType := fun k => match k with
  | 0 => .array .byte
  | _ => .int
abbrev cX6_init : ByteArray := prog_8_method_1_code
def yX6_init : MethodName := ⟨RX6, "<init>", "()V"⟩
def RX7 : String := "WakeVillage$Script"
def TX7 : u_T := fun k => match k with
  | 0 => ("WakeVillage$Script", "commands", "[LWakeVillage$Command;", true)
  | 1 => ("WakeVillage$Script", "count", "I", false)
  | 2 => ("WakeVillage$Script", "done", "I", false)
  | 3 => ("WakeVillage$Script", "inside", "I", false)
  | _ => ("WakeVillage$Script", "depth", "I", false)
def tyX7 : Nat → FieldType := fun k => match k with
  | 0 => .array (.object "WakeVillage$Command")
  | 1 => .int
  | 2 => .int
  | 3 => .int
  | _ => .int
abbrev cX7_init : ByteArray := prog_9_method_1_code
def yX7_init : MethodName := ⟨RX7, "<init>", "()V"⟩
def RX8 : String := "WakeVillage$Source"
def TX8 : u_T := fun k => match k with
  | 0 => ("WakeVillage$Source", "bytes", "[B", true)
  | 1 => ("WakeVillage$Source", "length", "I", false)
  | 2 => ("WakeVillage$Source", "failure", "I", false)
  | 3 => ("WakeVillage$Source", "failedAt", "I", false)
  | 4 => ("WakeVillage$Source", "word", "J", false)
  | 5 => ("WakeVillage$Source", "taken", "I", false)
  | 6 => ("WakeVillage$Source", "kind", "I", false)
  | 7 => ("WakeVillage$Source", "number", "I", false)
  | 8 => ("WakeVillage$Source", "start", "I", false)
  | _ => ("WakeVillage$Source", "next", "I", false)
def tyX8 : Nat → FieldType := fun k => match k with
  | 0 => .array .byte
  | 1 => .int
  | 2 => .int
  | 3 => .int
  | 4 => .long
  | 5 => .int
  | 6 => .int
  | 7 => .int
  | 8 => .int
  | _ => .int
abbrev cX8_init : ByteArray := prog_10_method_1_code
def yX8_init : MethodName := ⟨RX8, "<init>", "()V"⟩
abbrev cX8_hasRoomForFeed : ByteArray := prog_10_method_2_code
def yX8_hasRoomForFeed : MethodName := ⟨RX8, "hasRoomForFeed", "()Z"⟩
abbrev cX8_append : ByteArray := prog_10_method_3_code
def yX8_append : MethodName := ⟨RX8, "append", "(I)V"⟩
abbrev cX8_letterOf : ByteArray := prog_10_method_4_code
def yX8_letterOf : MethodName := ⟨RX8, "letterOf", "(JI)I"⟩
abbrev cX8_begin : ByteArray := prog_10_method_5_code
def yX8_begin : MethodName := ⟨RX8, "begin", "()V"⟩
abbrev cX8_fail : ByteArray := prog_10_method_6_code
def yX8_fail : MethodName := ⟨RX8, "fail", "(I)Z"⟩
abbrev cX8_advance : ByteArray := prog_10_method_7_code
def yX8_advance : MethodName := ⟨RX8, "advance", "()V"⟩
abbrev cX8_byteAt : ByteArray := prog_10_method_8_code
def yX8_byteAt : MethodName := ⟨RX8, "byteAt", "(I)I"⟩
abbrev cX8_isLetter : ByteArray := prog_10_method_9_code
def yX8_isLetter : MethodName := ⟨RX8, "isLetter", "(I)Z"⟩
abbrev cX8_isDigit : ByteArray := prog_10_method_10_code
def yX8_isDigit : MethodName := ⟨RX8, "isDigit", "(I)Z"⟩
abbrev cX8_scanWord : ByteArray := prog_10_method_11_code
def yX8_scanWord : MethodName := ⟨RX8, "scanWord", "()V"⟩
abbrev cX8_scanNumber : ByteArray := prog_10_method_12_code
def yX8_scanNumber : MethodName := ⟨RX8, "scanNumber", "()V"⟩
abbrev cX8_isAtEnd : ByteArray := prog_10_method_13_code
def yX8_isAtEnd : MethodName := ⟨RX8, "isAtEnd", "()Z"⟩
abbrev cX8_isMark : ByteArray := prog_10_method_14_code
def yX8_isMark : MethodName := ⟨RX8, "isMark", "(I)Z"⟩
abbrev cX8_isWord : ByteArray := prog_10_method_15_code
def yX8_isWord : MethodName := ⟨RX8, "isWord", "(Ljava/lang/String;)Z"⟩
abbrev cX8_takeMark : ByteArray := prog_10_method_16_code
def yX8_takeMark : MethodName := ⟨RX8, "takeMark", "(I)Z"⟩
abbrev cX8_takeWord : ByteArray := prog_10_method_17_code
def yX8_takeWord : MethodName := ⟨RX8, "takeWord", "(Ljava/lang/String;)Z"⟩
abbrev cX8_takeNumber : ByteArray := prog_10_method_18_code
def yX8_takeNumber : MethodName := ⟨RX8, "takeNumber", "(II)Z"⟩
abbrev cX8_expectName : ByteArray := prog_10_method_19_code
def yX8_expectName : MethodName := ⟨RX8, "expectName", "()Z"⟩
abbrev cX8_expectNode : ByteArray := prog_10_method_20_code
def yX8_expectNode : MethodName := ⟨RX8, "expectNode", "(LWakeVillage$Village;)I"⟩
def RX9 : String := "WakeVillage$TextReader"
def TX9 : u_T := fun k => match k with
  | 0 => ("WakeVillage$TextReader", "isYearTold", "Z", false)
  | 1 => ("WakeVillage$TextReader", "areCostsTold", "Z", false)
  | _ => ("WakeVillage$TextReader", "isMissTold", "Z", false)
def tyX9 : Nat → FieldType := fun k => match k with
  | 0 => .boolean
  | 1 => .boolean
  | _ => .boolean
abbrev cX9_init : ByteArray := prog_11_method_1_code
def yX9_init : MethodName := ⟨RX9, "<init>", "()V"⟩
abbrev cX9_readAll : ByteArray := prog_11_method_2_code
def yX9_readAll : MethodName := ⟨RX9, "readAll", "(LWakeVillage$Source;LWakeVillage$Village;)Z"⟩
abbrev cX9_readStatement : ByteArray := prog_11_method_3_code
def yX9_readStatement : MethodName := ⟨RX9, "readStatement", "(LWakeVillage$Source;LWakeVillage$Village;)Z"⟩
abbrev cX9_readYear : ByteArray := prog_11_method_4_code
def yX9_readYear : MethodName := ⟨RX9, "readYear", "(LWakeVillage$Source;LWakeVillage$Village;)Z"⟩
abbrev cX9_readCosts : ByteArray := prog_11_method_5_code
def yX9_readCosts : MethodName := ⟨RX9, "readCosts", "(LWakeVillage$Source;LWakeVillage$Village;)Z"⟩
abbrev cX9_readMiss : ByteArray := prog_11_method_6_code
def yX9_readMiss : MethodName := ⟨RX9, "readMiss", "(LWakeVillage$Source;LWakeVillage$Village;)Z"⟩
abbrev cX9_readNode : ByteArray := prog_11_method_7_code
def yX9_readNode : MethodName := ⟨RX9, "readNode", "(LWakeVillage$Source;LWakeVillage$Village;)Z"⟩
abbrev cX9_readLink : ByteArray := prog_11_method_8_code
def yX9_readLink : MethodName := ⟨RX9, "readLink", "(LWakeVillage$Source;LWakeVillage$Village;)Z"⟩
def RX10 : String := "WakeVillage$Village"
def TX10 : u_T := fun k => match k with
  | 0 => ("WakeVillage$Village", "nodes", "[LWakeVillage$Node;", true)
  | 1 => ("WakeVillage$Village", "links", "[LWakeVillage$Link;", true)
  | 2 => ("WakeVillage$Village", "messages", "[LWakeVillage$Message;", true)
  | 3 => ("WakeVillage$Village", "nodeCount", "I", false)
  | 4 => ("WakeVillage$Village", "linkCount", "I", false)
  | 5 => ("WakeVillage$Village", "messageCount", "I", false)
  | 6 => ("WakeVillage$Village", "year", "I", false)
  | 7 => ("WakeVillage$Village", "costToWake", "I", false)
  | 8 => ("WakeVillage$Village", "costToPass", "I", false)
  | 9 => ("WakeVillage$Village", "costToCall", "I", false)
  | 10 => ("WakeVillage$Village", "mayMiss", "I", false)
  | 11 => ("WakeVillage$Village", "time", "I", false)
  | 12 => ("WakeVillage$Village", "shiftsTaken", "I", false)
  | 13 => ("WakeVillage$Village", "awake", "I", false)
  | 14 => ("WakeVillage$Village", "passedOne", "I", false)
  | _ => ("WakeVillage$Village", "gotOne", "I", false)
def tyX10 : Nat → FieldType := fun k => match k with
  | 0 => .array (.object "WakeVillage$Node")
  | 1 => .array (.object "WakeVillage$Link")
  | 2 => .array (.object "WakeVillage$Message")
  | 3 => .int
  | 4 => .int
  | 5 => .int
  | 6 => .int
  | 7 => .int
  | 8 => .int
  | 9 => .int
  | 10 => .int
  | 11 => .int
  | 12 => .int
  | 13 => .int
  | 14 => .int
  | _ => .int
abbrev cX10_init : ByteArray := prog_12_method_1_code
def yX10_init : MethodName := ⟨RX10, "<init>", "()V"⟩
abbrev cX10_makeEmpty : ByteArray := prog_12_method_2_code
def yX10_makeEmpty : MethodName := ⟨RX10, "makeEmpty", "()V"⟩
abbrev cX10_copyFrom : ByteArray := prog_12_method_3_code
def yX10_copyFrom : MethodName := ⟨RX10, "copyFrom", "(LWakeVillage$Village;)V"⟩
abbrev cX10_nodeAt : ByteArray := prog_12_method_4_code
def yX10_nodeAt : MethodName := ⟨RX10, "nodeAt", "(I)LWakeVillage$Node;"⟩
abbrev cX10_linkAt : ByteArray := prog_12_method_5_code
def yX10_linkAt : MethodName := ⟨RX10, "linkAt", "(I)LWakeVillage$Link;"⟩
abbrev cX10_messageAt : ByteArray := prog_12_method_6_code
def yX10_messageAt : MethodName := ⟨RX10, "messageAt", "(I)LWakeVillage$Message;"⟩
abbrev cX10_addNode : ByteArray := prog_12_method_7_code
def yX10_addNode : MethodName := ⟨RX10, "addNode", "(JIII)V"⟩
abbrev cX10_addLink : ByteArray := prog_12_method_8_code
def yX10_addLink : MethodName := ⟨RX10, "addLink", "(II)V"⟩
abbrev cX10_addMessage : ByteArray := prog_12_method_9_code
def yX10_addMessage : MethodName := ⟨RX10, "addMessage", "(IIIZ)I"⟩
abbrev cX10_foldDays : ByteArray := prog_12_method_10_code
def yX10_foldDays : MethodName := ⟨RX10, "foldDays", "()V"⟩
abbrev cX10_isTickCount : ByteArray := prog_12_method_11_code
def yX10_isTickCount : MethodName := ⟨RX10, "isTickCount", "(I)Z"⟩
abbrev cX10_isSending : ByteArray := prog_12_method_12_code
def yX10_isSending : MethodName := ⟨RX10, "isSending", "(III)Z"⟩
abbrev cX10_isCharge : ByteArray := prog_12_method_13_code
def yX10_isCharge : MethodName := ⟨RX10, "isCharge", "(I)Z"⟩
abbrev cX10_hasTimeFor : ByteArray := prog_12_method_14_code
def yX10_hasTimeFor : MethodName := ⟨RX10, "hasTimeFor", "(I)Z"⟩
abbrev cX10_canSend : ByteArray := prog_12_method_15_code
def yX10_canSend : MethodName := ⟨RX10, "canSend", "(II)Z"⟩
abbrev cX10_isDay : ByteArray := prog_12_method_16_code
def yX10_isDay : MethodName := ⟨RX10, "isDay", "(I)Z"⟩
abbrev cX10_turnWatch : ByteArray := prog_12_method_17_code
def yX10_turnWatch : MethodName := ⟨RX10, "turnWatch", "(II)V"⟩
abbrev cX10_addEnergy : ByteArray := prog_12_method_18_code
def yX10_addEnergy : MethodName := ⟨RX10, "addEnergy", "(II)I"⟩
abbrev cX10_numberOf : ByteArray := prog_12_method_19_code
def yX10_numberOf : MethodName := ⟨RX10, "numberOf", "(J)I"⟩
abbrev cX10_has : ByteArray := prog_12_method_20_code
def yX10_has : MethodName := ⟨RX10, "has", "(II)Z"⟩
abbrev cX10_hasDay : ByteArray := prog_12_method_21_code
def yX10_hasDay : MethodName := ⟨RX10, "hasDay", "(JI)Z"⟩
abbrev cX10_isOut : ByteArray := prog_12_method_22_code
def yX10_isOut : MethodName := ⟨RX10, "isOut", "(I)Z"⟩
abbrev cX10_isWatched : ByteArray := prog_12_method_23_code
def yX10_isWatched : MethodName := ⟨RX10, "isWatched", "(II)Z"⟩
abbrev cX10_dayOfYear : ByteArray := prog_12_method_24_code
def yX10_dayOfYear : MethodName := ⟨RX10, "dayOfYear", "(I)I"⟩
abbrev cX10_dayOf : ByteArray := prog_12_method_25_code
def yX10_dayOf : MethodName := ⟨RX10, "dayOf", "(I)I"⟩
abbrev cX10_isAwake : ByteArray := prog_12_method_26_code
def yX10_isAwake : MethodName := ⟨RX10, "isAwake", "(I)Z"⟩
abbrev cX10_tableOf : ByteArray := prog_12_method_27_code
def yX10_tableOf : MethodName := ⟨RX10, "tableOf", "(I)J"⟩
abbrev cX10_notOut : ByteArray := prog_12_method_29_code
def yX10_notOut : MethodName := ⟨RX10, "notOut", "()I"⟩
abbrev cX10_messagesInState : ByteArray := prog_12_method_30_code
def yX10_messagesInState : MethodName := ⟨RX10, "messagesInState", "(I)I"⟩
abbrev cX10_messagesInTime : ByteArray := prog_12_method_31_code
def yX10_messagesInTime : MethodName := ⟨RX10, "messagesInTime", "()I"⟩
abbrev cX10_isWaitingAt : ByteArray := prog_12_method_32_code
def yX10_isWaitingAt : MethodName := ⟨RX10, "isWaitingAt", "(II)Z"⟩
abbrev cX10_messagesWaitingAt : ByteArray := prog_12_method_33_code
def yX10_messagesWaitingAt : MethodName := ⟨RX10, "messagesWaitingAt", "(I)I"⟩
abbrev cX10_figure : ByteArray := prog_12_method_34_code
def yX10_figure : MethodName := ⟨RX10, "figure", "(I)I"⟩
abbrev cX10_nodeFigure : ByteArray := prog_12_method_35_code
def yX10_nodeFigure : MethodName := ⟨RX10, "nodeFigure", "(II)I"⟩
abbrev cX10_wakesAfter : ByteArray := prog_12_method_36_code
def yX10_wakesAfter : MethodName := ⟨RX10, "wakesAfter", "(III)Z"⟩
abbrev cX10_awakeAfter : ByteArray := prog_12_method_37_code
def yX10_awakeAfter : MethodName := ⟨RX10, "awakeAfter", "(I)I"⟩
abbrev cX10_meetingIn : ByteArray := prog_12_method_38_code
def yX10_meetingIn : MethodName := ⟨RX10, "meetingIn", "(III)I"⟩
abbrev cX10_grown : ByteArray := prog_12_method_44_code
def yX10_grown : MethodName := ⟨RX10, "grown", "(II)I"⟩
abbrev cX10_lowestOf : ByteArray := prog_12_method_45_code
def yX10_lowestOf : MethodName := ⟨RX10, "lowestOf", "(I)I"⟩
abbrev cX10_nextTowards : ByteArray := prog_12_method_47_code
def yX10_nextTowards : MethodName := ⟨RX10, "nextTowards", "(III)I"⟩
abbrev cX10_passTicks : ByteArray := prog_12_method_49_code
def yX10_passTicks : MethodName := ⟨RX10, "passTicks", "(I)I"⟩
abbrev cX10_wakeNodes : ByteArray := prog_12_method_50_code
def yX10_wakeNodes : MethodName := ⟨RX10, "wakeNodes", "()V"⟩
abbrev cX10_meetOrMiss : ByteArray := prog_12_method_51_code
def yX10_meetOrMiss : MethodName := ⟨RX10, "meetOrMiss", "(LWakeVillage$Link;)V"⟩
abbrev cX10_miss : ByteArray := prog_12_method_52_code
def yX10_miss : MethodName := ⟨RX10, "miss", "(LWakeVillage$Link;)V"⟩
abbrev cX10_passMessages : ByteArray := prog_12_method_53_code
def yX10_passMessages : MethodName := ⟨RX10, "passMessages", "(Z)I"⟩
abbrev cX10_tryToPass : ByteArray := prog_12_method_54_code
def yX10_tryToPass : MethodName := ⟨RX10, "tryToPass", "(LWakeVillage$Message;)V"⟩
abbrev cX10_moveTo : ByteArray := prog_12_method_55_code
def yX10_moveTo : MethodName := ⟨RX10, "moveTo", "(LWakeVillage$Message;I)V"⟩
abbrev cX10_loseMessages : ByteArray := prog_12_method_56_code
def yX10_loseMessages : MethodName := ⟨RX10, "loseMessages", "()V"⟩
def RX11 : String := "WakeVillage"
def TX11 : u_T := fun k => match k with
  | 0 => ("WakeVillage", "source", "LWakeVillage$Source;", true)
  | 1 => ("WakeVillage", "reader", "LWakeVillage$TextReader;", true)
  | 2 => ("WakeVillage", "script", "LWakeVillage$Script;", true)
  | 3 => ("WakeVillage", "forecast", "LWakeVillage$Forecast;", true)
  | 4 => ("WakeVillage", "history", "LWakeVillage$History;", true)
  | 5 => ("WakeVillage", "latest", "LWakeVillage$Report;", true)
  | 6 => ("WakeVillage", "now", "LWakeVillage$Village;", true)
  | 7 => ("WakeVillage", "draft", "LWakeVillage$Village;", true)
  | 8 => ("WakeVillage", "saved", "LWakeVillage$Village;", true)
  | _ => ("WakeVillage", "isSaved", "Z", false)
def tyX11 : Nat → FieldType := fun k => match k with
  | 0 => .object "WakeVillage$Source"
  | 1 => .object "WakeVillage$TextReader"
  | 2 => .object "WakeVillage$Script"
  | 3 => .object "WakeVillage$Forecast"
  | 4 => .object "WakeVillage$History"
  | 5 => .object "WakeVillage$Report"
  | 6 => .object "WakeVillage$Village"
  | 7 => .object "WakeVillage$Village"
  | 8 => .object "WakeVillage$Village"
  | _ => .boolean
abbrev cX11_init : ByteArray := prog_1_method_1_code
def yX11_init : MethodName := ⟨RX11, "<init>", "()V"⟩
abbrev cX11_feed : ByteArray := prog_1_method_2_code
def yX11_feed : MethodName := ⟨RX11, "feed", "(IIIII)I"⟩
abbrev cX11_truncate : ByteArray := prog_1_method_3_code
def yX11_truncate : MethodName := ⟨RX11, "truncate", "(I)I"⟩
abbrev cX11_readText : ByteArray := prog_1_method_4_code
def yX11_readText : MethodName := ⟨RX11, "readText", "()I"⟩
abbrev cX11_setting : ByteArray := prog_1_method_8_code
def yX11_setting : MethodName := ⟨RX11, "setting", "(I)I"⟩
abbrev cX11_node : ByteArray := prog_1_method_9_code
def yX11_node : MethodName := ⟨RX11, "node", "(II)I"⟩
abbrev cX11_link : ByteArray := prog_1_method_10_code
def yX11_link : MethodName := ⟨RX11, "link", "(II)I"⟩
abbrev cX11_message : ByteArray := prog_1_method_11_code
def yX11_message : MethodName := ⟨RX11, "message", "(II)I"⟩
abbrev cX11_inTable : ByteArray := prog_1_method_13_code
def yX11_inTable : MethodName := ⟨RX11, "inTable", "(II)Z"⟩
abbrev cX11_awakeIn : ByteArray := prog_1_method_16_code
def yX11_awakeIn : MethodName := ⟨RX11, "awakeIn", "(I)I"⟩
abbrev cX11_meetsIn : ByteArray := prog_1_method_17_code
def yX11_meetsIn : MethodName := ⟨RX11, "meetsIn", "(II)I"⟩
abbrev cX11_arrives : ByteArray := prog_1_method_23_code
def yX11_arrives : MethodName := ⟨RX11, "arrives", "(I)I"⟩
abbrev cX11_wouldArrive : ByteArray := prog_1_method_24_code
def yX11_wouldArrive : MethodName := ⟨RX11, "wouldArrive", "(IIZ)I"⟩
abbrev cX11_outIn : ByteArray := prog_1_method_25_code
def yX11_outIn : MethodName := ⟨RX11, "outIn", "(I)I"⟩
abbrev cX11_energyIn : ByteArray := prog_1_method_26_code
def yX11_energyIn : MethodName := ⟨RX11, "energyIn", "(II)I"⟩
abbrev cX11_tick : ByteArray := prog_1_method_30_code
def yX11_tick : MethodName := ⟨RX11, "tick", "(I)I"⟩
abbrev cX11_send : ByteArray := prog_1_method_31_code
def yX11_send : MethodName := ⟨RX11, "send", "(IIIZ)I"⟩
abbrev cX11_setShift : ByteArray := prog_1_method_32_code
def yX11_setShift : MethodName := ⟨RX11, "setShift", "(II)I"⟩
abbrev cX11_watch : ByteArray := prog_1_method_33_code
def yX11_watch : MethodName := ⟨RX11, "watch", "(IIZ)Z"⟩
abbrev cX11_setBorn : ByteArray := prog_1_method_34_code
def yX11_setBorn : MethodName := ⟨RX11, "setBorn", "(II)I"⟩
abbrev cX11_charge : ByteArray := prog_1_method_35_code
def yX11_charge : MethodName := ⟨RX11, "charge", "(II)I"⟩
abbrev cX11_setMiss : ByteArray := prog_1_method_36_code
def yX11_setMiss : MethodName := ⟨RX11, "setMiss", "(I)I"⟩
abbrev cX11_undo : ByteArray := prog_1_method_39_code
def yX11_undo : MethodName := ⟨RX11, "undo", "()I"⟩
abbrev cX11_requireNode : ByteArray := prog_1_method_42_code
def yX11_requireNode : MethodName := ⟨RX11, "requireNode", "(I)V"⟩
abbrev cX11_requireMessage : ByteArray := prog_1_method_43_code
def yX11_requireMessage : MethodName := ⟨RX11, "requireMessage", "(I)V"⟩
abbrev cX11_requireDay : ByteArray := prog_1_method_44_code
def yX11_requireDay : MethodName := ⟨RX11, "requireDay", "(I)V"⟩
abbrev cX11_requireDifferent : ByteArray := prog_1_method_45_code
def yX11_requireDifferent : MethodName := ⟨RX11, "requireDifferent", "(II)V"⟩
def RX12 : String := "WakeVillageLaw$Node"
def TX12 : u_T := fun k => match k with
  | 0 => ("WakeVillageLaw$Node", "born", "I", false)
  | 1 => ("WakeVillageLaw$Node", "shift", "I", false)
  | 2 => ("WakeVillageLaw$Node", "energy", "I", false)
  | 3 => ("WakeVillageLaw$Node", "awakes", "I", false)
  | 4 => ("WakeVillageLaw$Node", "passed", "I", false)
  | 5 => ("WakeVillageLaw$Node", "got", "I", false)
  | _ => ("WakeVillageLaw$Node", "watched", "Ljava/util/TreeSet;", false)
def tyX12 : Nat → FieldType := fun k => match k with
  | 0 => .int
  | 1 => .int
  | 2 => .int
  | 3 => .int
  | 4 => .int
  | 5 => .int
  | _ => .object "java/util/TreeSet"
abbrev cX12_init : ByteArray := prog_14_method_1_code
def yX12_init : MethodName := ⟨RX12, "<init>", "()V"⟩
def RX13 : String := "WakeVillageLaw$World"
def TX13 : u_T := fun k => match k with
  | 0 => ("WakeVillageLaw$World", "year", "I", false)
  | 1 => ("WakeVillageLaw$World", "time", "I", false)
  | 2 => ("WakeVillageLaw$World", "wake", "I", false)
  | 3 => ("WakeVillageLaw$World", "pass", "I", false)
  | 4 => ("WakeVillageLaw$World", "call", "I", false)
  | 5 => ("WakeVillageLaw$World", "miss", "I", false)
  | 6 => ("WakeVillageLaw$World", "taken", "I", false)
  | 7 => ("WakeVillageLaw$World", "nodes", "Ljava/util/List;", false)
  | 8 => ("WakeVillageLaw$World", "links", "Ljava/util/List;", false)
  | 9 => ("WakeVillageLaw$World", "messages", "Ljava/util/List;", false)
  | _ => ("WakeVillageLaw$World", "text", "Ljava/lang/String;", false)
def tyX13 : Nat → FieldType := fun k => match k with
  | 0 => .int
  | 1 => .int
  | 2 => .int
  | 3 => .int
  | 4 => .int
  | 5 => .int
  | 6 => .int
  | 7 => .object "java/util/List"
  | 8 => .object "java/util/List"
  | 9 => .object "java/util/List"
  | _ => .object "java/lang/String"
abbrev cX13_init : ByteArray := prog_15_method_1_code
def yX13_init : MethodName := ⟨RX13, "<init>", "()V"⟩
abbrev cX13_grown : ByteArray := prog_15_method_2_code
def yX13_grown : MethodName := ⟨RX13, "grown", "([I)LWakeVillageLaw$World;"⟩
abbrev cX13_linkOf : ByteArray := prog_15_method_4_code
def yX13_linkOf : MethodName := ⟨RX13, "linkOf", "(II)[I"⟩
abbrev cX13_isOut : ByteArray := prog_15_method_5_code
def yX13_isOut : MethodName := ⟨RX13, "isOut", "(I)Z"⟩
abbrev cX13_day : ByteArray := prog_15_method_6_code
def yX13_day : MethodName := ⟨RX13, "day", "(II)I"⟩
abbrev cX13_table : ByteArray := prog_15_method_7_code
def yX13_table : MethodName := ⟨RX13, "table", "(I)Ljava/util/TreeSet;"⟩
abbrev cX13_isAwake : ByteArray := prog_15_method_8_code
def yX13_isAwake : MethodName := ⟨RX13, "isAwake", "(II)Z"⟩
abbrev cX13_hops : ByteArray := prog_15_method_9_code
def yX13_hops : MethodName := ⟨RX13, "hops", "(I)[I"⟩
abbrev cX13_next : ByteArray := prog_15_method_10_code
def yX13_next : MethodName := ⟨RX13, "next", "(II)I"⟩
abbrev cX13_tick : ByteArray := prog_15_method_12_code
def yX13_tick : MethodName := ⟨RX13, "tick", "()I"⟩
abbrev cX13_ticks : ByteArray := prog_15_method_13_code
def yX13_ticks : MethodName := ⟨RX13, "ticks", "(I)I"⟩
abbrev cX13_send : ByteArray := prog_15_method_14_code
def yX13_send : MethodName := ⟨RX13, "send", "(IIIZ)I"⟩
def RX14 : String := "WakeVillageModel"
def TX14 : u_T := fun k => match k with
  | _ => ("", "", "", false)
def tyX14 : Nat → FieldType := fun k => match k with
  | _ => .int
def RJx145de : String := "java/io/Serializable"
def TJx145de : u_T := fun k => match k with
  | _ => ("", "", "", false)
def tyJx145de : Nat → FieldType := fun k => match k with
  | _ => .int
def RJ5 : String := "java/lang/AbstractStringBuilder"
def TJ5 : u_T := fun k => match k with
  | _ => ("", "", "", false)
def tyJ5 : Nat → FieldType := fun k => match k with
  | _ => .int
abbrev cJ5_init_d00df : ByteArray := prog_18_method_2_code
def yJ5_init_d00df : MethodName := ⟨RJ5, "<init>", "(I)V"⟩
abbrev cJ5_compareTo_759ea : ByteArray := prog_18_method_5_code
def yJ5_compareTo_759ea : MethodName := ⟨RJ5, "compareTo", "(Ljava/lang/AbstractStringBuilder;)I"⟩
abbrev cJ5_length_8abf5 : ByteArray := prog_18_method_6_code
def yJ5_length_8abf5 : MethodName := ⟨RJ5, "length", "()I"⟩
abbrev cJ5_ensureCapacityInternal_d00df : ByteArray := prog_18_method_9_code
def yJ5_ensureCapacityInternal_d00df : MethodName := ⟨RJ5, "ensureCapacityInternal", "(I)V"⟩
abbrev cJ5_newCapacity_0f7a4 : ByteArray := prog_18_method_10_code
def yJ5_newCapacity_0f7a4 : MethodName := ⟨RJ5, "newCapacity", "(I)I"⟩
abbrev cJ5_inflate_da8c8 : ByteArray := prog_18_method_11_code
def yJ5_inflate_da8c8 : MethodName := ⟨RJ5, "inflate", "()V"⟩
abbrev cJ5_append_cf1ce : ByteArray := prog_18_method_22_code
def yJ5_append_cf1ce : MethodName := ⟨RJ5, "append", "(Ljava/lang/String;)Ljava/lang/AbstractStringBuilder;"⟩
abbrev cJ5_appendNull_278bc : ByteArray := prog_18_method_26_code
def yJ5_appendNull_278bc : MethodName := ⟨RJ5, "appendNull", "()Ljava/lang/AbstractStringBuilder;"⟩
abbrev cJ5_append_3fe6f : ByteArray := prog_18_method_31_code
def yJ5_append_3fe6f : MethodName := ⟨RJ5, "append", "(C)Ljava/lang/AbstractStringBuilder;"⟩
abbrev cJ5_append_c97b9 : ByteArray := prog_18_method_32_code
def yJ5_append_c97b9 : MethodName := ⟨RJ5, "append", "(I)Ljava/lang/AbstractStringBuilder;"⟩
abbrev cJ5_getValue_6d5f1 : ByteArray := prog_18_method_64_code
def yJ5_getValue_6d5f1 : MethodName := ⟨RJ5, "getValue", "()[B"⟩
abbrev cJ5_isLatin1_aae02 : ByteArray := prog_18_method_68_code
def yJ5_isLatin1_aae02 : MethodName := ⟨RJ5, "isLatin1", "()Z"⟩
abbrev cJ5_inflateIfNeededFor_a7421 : ByteArray := prog_18_method_71_code
def yJ5_inflateIfNeededFor_a7421 : MethodName := ⟨RJ5, "inflateIfNeededFor", "(Ljava/lang/String;)V"⟩
abbrev cJ5_putStringAt_47b60 : ByteArray := prog_18_method_73_code
def yJ5_putStringAt_47b60 : MethodName := ⟨RJ5, "putStringAt", "(ILjava/lang/String;)V"⟩
def RJx2cfe8 : String := "java/lang/Appendable"
def TJx2cfe8 : u_T := fun k => match k with
  | _ => ("", "", "", false)
def tyJx2cfe8 : Nat → FieldType := fun k => match k with
  | _ => .int
def RJx9f9b0 : String := "java/lang/CharSequence"
def TJx9f9b0 : u_T := fun k => match k with
  | _ => ("", "", "", false)
def tyJx9f9b0 : Nat → FieldType := fun k => match k with
  | _ => .int
def RJx8e188 : String := "java/lang/Cloneable"
def TJx8e188 : u_T := fun k => match k with
  | _ => ("", "", "", false)
def tyJx8e188 : Nat → FieldType := fun k => match k with
  | _ => .int
def RJxb160c : String := "java/lang/Comparable"
def TJxb160c : u_T := fun k => match k with
  | _ => ("", "", "", false)
def tyJxb160c : Nat → FieldType := fun k => match k with
  | _ => .int
def RJxabbfe : String := "java/lang/Integer$IntegerCache"
def TJxabbfe : u_T := fun k => match k with
  | _ => ("", "", "", false)
def tyJxabbfe : Nat → FieldType := fun k => match k with
  | _ => .int
def RJ6 : String := "java/lang/Integer"
def TJ6 : u_T := fun k => match k with
  | _ => ("java/lang/Integer", "value", "I", true)
def tyJ6 : Nat → FieldType := fun k => match k with
  | _ => .int
abbrev cJ6_getChars_ba4f3 : ByteArray := prog_27_method_12_code
def yJ6_getChars_ba4f3 : MethodName := ⟨RJ6, "getChars", "(II[B)I"⟩
abbrev cJ6_stringSize_0f7a4 : ByteArray := prog_27_method_13_code
def yJ6_stringSize_0f7a4 : MethodName := ⟨RJ6, "stringSize", "(I)I"⟩
abbrev cJ6_valueOf_2dffe : ByteArray := prog_27_method_22_code
def yJ6_valueOf_2dffe : MethodName := ⟨RJ6, "valueOf", "(I)Ljava/lang/Integer;"⟩
abbrev cJ6_init_d00df : ByteArray := prog_27_method_23_code
def yJ6_init_d00df : MethodName := ⟨RJ6, "<init>", "(I)V"⟩
abbrev cJ6_intValue_8abf5 : ByteArray := prog_27_method_27_code
def yJ6_intValue_8abf5 : MethodName := ⟨RJ6, "intValue", "()I"⟩
abbrev cJ6_equals_9ea2d : ByteArray := prog_27_method_34_code
def yJ6_equals_9ea2d : MethodName := ⟨RJ6, "equals", "(Ljava/lang/Object;)Z"⟩
abbrev cJ6_compareTo_e8194 : ByteArray := prog_27_method_39_code
def yJ6_compareTo_e8194 : MethodName := ⟨RJ6, "compareTo", "(Ljava/lang/Integer;)I"⟩
abbrev cJ6_compare_7cf53 : ByteArray := prog_27_method_40_code
def yJ6_compare_7cf53 : MethodName := ⟨RJ6, "compare", "(II)I"⟩
abbrev cJ6_numberOfLeadingZeros_0f7a4 : ByteArray := prog_27_method_47_code
def yJ6_numberOfLeadingZeros_0f7a4 : MethodName := ⟨RJ6, "numberOfLeadingZeros", "(I)I"⟩
abbrev cJ6_numberOfTrailingZeros_0f7a4 : ByteArray := prog_27_method_48_code
def yJ6_numberOfTrailingZeros_0f7a4 : MethodName := ⟨RJ6, "numberOfTrailingZeros", "(I)I"⟩
abbrev cJ6_bitCount_0f7a4 : ByteArray := prog_27_method_49_code
def yJ6_bitCount_0f7a4 : MethodName := ⟨RJ6, "bitCount", "(I)I"⟩
abbrev cJ6_compareTo_e47da : ByteArray := prog_27_method_63_code
def yJ6_compareTo_e47da : MethodName := ⟨RJ6, "compareTo", "(Ljava/lang/Object;)I"⟩
def RJxab1ab : String := "java/lang/Iterable"
def TJxab1ab : u_T := fun k => match k with
  | _ => ("", "", "", false)
def tyJxab1ab : Nat → FieldType := fun k => match k with
  | _ => .int
def RJ13 : String := "java/lang/Long"
def TJ13 : u_T := fun k => match k with
  | _ => ("", "", "", false)
def tyJ13 : Nat → FieldType := fun k => match k with
  | _ => .int
abbrev cJ13_numberOfLeadingZeros_95d88 : ByteArray := prog_30_method_48_code
def yJ13_numberOfLeadingZeros_95d88 : MethodName := ⟨RJ13, "numberOfLeadingZeros", "(J)I"⟩
abbrev cJ13_numberOfTrailingZeros_95d88 : ByteArray := prog_30_method_49_code
def yJ13_numberOfTrailingZeros_95d88 : MethodName := ⟨RJ13, "numberOfTrailingZeros", "(J)I"⟩
abbrev cJ13_bitCount_95d88 : ByteArray := prog_30_method_50_code
def yJ13_bitCount_95d88 : MethodName := ⟨RJ13, "bitCount", "(J)I"⟩
def RJ9 : String := "java/lang/Math"
def TJ9 : u_T := fun k => match k with
  | _ => ("", "", "", false)
def tyJ9 : Nat → FieldType := fun k => match k with
  | _ => .int
abbrev cJ9_max_7cf53 : ByteArray := prog_31_method_65_code
def yJ9_max_7cf53 : MethodName := ⟨RJ9, "max", "(II)I"⟩
abbrev cJ9_min_7cf53 : ByteArray := prog_31_method_69_code
def yJ9_min_7cf53 : MethodName := ⟨RJ9, "min", "(II)I"⟩
def RJxd2413 : String := "java/lang/Number"
def TJxd2413 : u_T := fun k => match k with
  | _ => ("", "", "", false)
def tyJxd2413 : Nat → FieldType := fun k => match k with
  | _ => .int
abbrev cJxd2413_init_da8c8 : ByteArray := prog_32_method_1_code
def yJxd2413_init_da8c8 : MethodName := ⟨RJxd2413, "<init>", "()V"⟩
def RJ0 : String := "java/lang/String"
def TJ0 : u_T := fun k => match k with
  | 0 => ("java/lang/String", "value", "[B", true)
  | 1 => ("java/lang/String", "coder", "B", true)
  | 2 => ("java/lang/String", "hash", "I", false)
  | _ => ("java/lang/String", "hashIsZero", "Z", false)
def tyJ0 : Nat → FieldType := fun k => match k with
  | 0 => .array .byte
  | 1 => .byte
  | 2 => .int
  | _ => .boolean
abbrev cJ0_init_81219 : ByteArray := prog_34_method_53_code
def yJ0_init_81219 : MethodName := ⟨RJ0, "<init>", "(Ljava/lang/StringBuilder;)V"⟩
abbrev cJ0_length_8abf5 : ByteArray := prog_34_method_54_code
def yJ0_length_8abf5 : MethodName := ⟨RJ0, "length", "()I"⟩
abbrev cJ0_isEmpty_aae02 : ByteArray := prog_34_method_55_code
def yJ0_isEmpty_aae02 : MethodName := ⟨RJ0, "isEmpty", "()Z"⟩
abbrev cJ0_charAt_5068e : ByteArray := prog_34_method_56_code
def yJ0_charAt_5068e : MethodName := ⟨RJ0, "charAt", "(I)C"⟩
abbrev cJ0_equals_9ea2d : ByteArray := prog_34_method_66_code
def yJ0_equals_9ea2d : MethodName := ⟨RJ0, "equals", "(Ljava/lang/Object;)Z"⟩
abbrev cJ0_compareTo_2f485 : ByteArray := prog_34_method_71_code
def yJ0_compareTo_2f485 : MethodName := ⟨RJ0, "compareTo", "(Ljava/lang/String;)I"⟩
abbrev cJ0_getBytes_840e7 : ByteArray := prog_34_method_147_code
def yJ0_getBytes_840e7 : MethodName := ⟨RJ0, "getBytes", "([BIB)V"⟩
abbrev cJ0_init_db425 : ByteArray := prog_34_method_150_code
def yJ0_init_db425 : MethodName := ⟨RJ0, "<init>", "(Ljava/lang/AbstractStringBuilder;Ljava/lang/Void;)V"⟩
abbrev cJ0_coder_7d493 : ByteArray := prog_34_method_152_code
def yJ0_coder_7d493 : MethodName := ⟨RJ0, "coder", "()B"⟩
abbrev cJ0_isLatin1_aae02 : ByteArray := prog_34_method_154_code
def yJ0_isLatin1_aae02 : MethodName := ⟨RJ0, "isLatin1", "()Z"⟩
abbrev cJ0_checkIndex_df160 : ByteArray := prog_34_method_155_code
def yJ0_checkIndex_df160 : MethodName := ⟨RJ0, "checkIndex", "(II)V"⟩
abbrev cJ0_checkOffset_df160 : ByteArray := prog_34_method_156_code
def yJ0_checkOffset_df160 : MethodName := ⟨RJ0, "checkOffset", "(II)V"⟩
abbrev cJ0_checkBoundsOffCount_cabcc : ByteArray := prog_34_method_157_code
def yJ0_checkBoundsOffCount_cabcc : MethodName := ⟨RJ0, "checkBoundsOffCount", "(III)I"⟩
abbrev cJ0_checkBoundsBeginEnd_23922 : ByteArray := prog_34_method_158_code
def yJ0_checkBoundsBeginEnd_23922 : MethodName := ⟨RJ0, "checkBoundsBeginEnd", "(III)V"⟩
abbrev cJ0_compareTo_e47da : ByteArray := prog_34_method_162_code
def yJ0_compareTo_e47da : MethodName := ⟨RJ0, "compareTo", "(Ljava/lang/Object;)I"⟩
def RJ4 : String := "java/lang/StringBuilder"
def TJ4 : u_T := fun k => match k with
  | 0 => ("java/lang/AbstractStringBuilder", "value", "[B", false)
  | 1 => ("java/lang/AbstractStringBuilder", "coder", "B", false)
  | 2 => ("java/lang/AbstractStringBuilder", "maybeLatin1", "Z", false)
  | _ => ("java/lang/AbstractStringBuilder", "count", "I", false)
def tyJ4 : Nat → FieldType := fun k => match k with
  | 0 => .array .byte
  | 1 => .byte
  | 2 => .boolean
  | _ => .int
abbrev cJ4_init_da8c8 : ByteArray := prog_35_method_1_code
def yJ4_init_da8c8 : MethodName := ⟨RJ4, "<init>", "()V"⟩
abbrev cJ4_compareTo_93759 : ByteArray := prog_35_method_5_code
def yJ4_compareTo_93759 : MethodName := ⟨RJ4, "compareTo", "(Ljava/lang/StringBuilder;)I"⟩
abbrev cJ4_append_15ec4 : ByteArray := prog_35_method_7_code
def yJ4_append_15ec4 : MethodName := ⟨RJ4, "append", "(Ljava/lang/String;)Ljava/lang/StringBuilder;"⟩
abbrev cJ4_append_cf468 : ByteArray := prog_35_method_14_code
def yJ4_append_cf468 : MethodName := ⟨RJ4, "append", "(C)Ljava/lang/StringBuilder;"⟩
abbrev cJ4_append_bf812 : ByteArray := prog_35_method_15_code
def yJ4_append_bf812 : MethodName := ⟨RJ4, "append", "(I)Ljava/lang/StringBuilder;"⟩
abbrev cJ4_toString_0e30d : ByteArray := prog_35_method_42_code
def yJ4_toString_0e30d : MethodName := ⟨RJ4, "toString", "()Ljava/lang/String;"⟩
abbrev cJ4_length_8abf5 : ByteArray := prog_35_method_93_code
def yJ4_length_8abf5 : MethodName := ⟨RJ4, "length", "()I"⟩
abbrev cJ4_compareTo_e47da : ByteArray := prog_35_method_97_code
def yJ4_compareTo_e47da : MethodName := ⟨RJ4, "compareTo", "(Ljava/lang/Object;)I"⟩
def RJ1 : String := "java/lang/StringLatin1"
def TJ1 : u_T := fun k => match k with
  | _ => ("", "", "", false)
def tyJ1 : Nat → FieldType := fun k => match k with
  | _ => .int
abbrev cJ1_charAt_3b067 : ByteArray := prog_36_method_2_code
def yJ1_charAt_3b067 : MethodName := ⟨RJ1, "charAt", "([BI)C"⟩
abbrev cJ1_canEncode_fc78d : ByteArray := prog_36_method_3_code
def yJ1_canEncode_fc78d : MethodName := ⟨RJ1, "canEncode", "(C)Z"⟩
abbrev cJ1_length_9d52b : ByteArray := prog_36_method_5_code
def yJ1_length_9d52b : MethodName := ⟨RJ1, "length", "([B)I"⟩
abbrev cJ1_equals_b5fdf : ByteArray := prog_36_method_13_code
def yJ1_equals_b5fdf : MethodName := ⟨RJ1, "equals", "([B[B)Z"⟩
abbrev cJ1_compareTo_b82b6 : ByteArray := prog_36_method_14_code
def yJ1_compareTo_b82b6 : MethodName := ⟨RJ1, "compareTo", "([B[B)I"⟩
abbrev cJ1_compareTo_66405 : ByteArray := prog_36_method_15_code
def yJ1_compareTo_66405 : MethodName := ⟨RJ1, "compareTo", "([B[BII)I"⟩
abbrev cJ1_compareToUTF16_b82b6 : ByteArray := prog_36_method_16_code
def yJ1_compareToUTF16_b82b6 : MethodName := ⟨RJ1, "compareToUTF16", "([B[B)I"⟩
abbrev cJ1_compareToUTF16_66405 : ByteArray := prog_36_method_17_code
def yJ1_compareToUTF16_66405 : MethodName := ⟨RJ1, "compareToUTF16", "([B[BII)I"⟩
abbrev cJ1_compareToUTF16Values_66405 : ByteArray := prog_36_method_18_code
def yJ1_compareToUTF16Values_66405 : MethodName := ⟨RJ1, "compareToUTF16Values", "([B[BII)I"⟩
abbrev cJ1_getChar_3b067 : ByteArray := prog_36_method_44_code
def yJ1_getChar_3b067 : MethodName := ⟨RJ1, "getChar", "([BI)C"⟩
abbrev cJ1_inflate_0e8fd : ByteArray := prog_36_method_50_code
def yJ1_inflate_0e8fd : MethodName := ⟨RJ1, "inflate", "([BI[BII)V"⟩
def RJ2 : String := "java/lang/StringUTF16"
def TJ2 : u_T := fun k => match k with
  | _ => ("", "", "", false)
def tyJ2 : Nat → FieldType := fun k => match k with
  | _ => .int
abbrev cJ2_newBytesFor_77867 : ByteArray := prog_37_method_2_code
def yJ2_newBytesFor_77867 : MethodName := ⟨RJ2, "newBytesFor", "(I)[B"⟩
abbrev cJ2_newBytesLength_0f7a4 : ByteArray := prog_37_method_3_code
def yJ2_newBytesLength_0f7a4 : MethodName := ⟨RJ2, "newBytesLength", "(I)I"⟩
abbrev cJ2_putChar_b72d1 : ByteArray := prog_37_method_4_code
def yJ2_putChar_b72d1 : MethodName := ⟨RJ2, "putChar", "([BII)V"⟩
abbrev cJ2_getChar_3b067 : ByteArray := prog_37_method_5_code
def yJ2_getChar_3b067 : MethodName := ⟨RJ2, "getChar", "([BI)C"⟩
abbrev cJ2_length_9d52b : ByteArray := prog_37_method_6_code
def yJ2_length_9d52b : MethodName := ⟨RJ2, "length", "([B)I"⟩
abbrev cJ2_coderFromArrayLen_85cad : ByteArray := prog_37_method_15_code
def yJ2_coderFromArrayLen_85cad : MethodName := ⟨RJ2, "coderFromArrayLen", "([BI)B"⟩
abbrev cJ2_compress_39247 : ByteArray := prog_37_method_17_code
def yJ2_compress_39247 : MethodName := ⟨RJ2, "compress", "([BII)[B"⟩
abbrev cJ2_compress_5af95 : ByteArray := prog_37_method_22_code
def yJ2_compress_5af95 : MethodName := ⟨RJ2, "compress", "([BI[BII)I"⟩
abbrev cJ2_compareTo_b82b6 : ByteArray := prog_37_method_29_code
def yJ2_compareTo_b82b6 : MethodName := ⟨RJ2, "compareTo", "([B[B)I"⟩
abbrev cJ2_compareTo_66405 : ByteArray := prog_37_method_30_code
def yJ2_compareTo_66405 : MethodName := ⟨RJ2, "compareTo", "([B[BII)I"⟩
abbrev cJ2_compareValues_66405 : ByteArray := prog_37_method_31_code
def yJ2_compareValues_66405 : MethodName := ⟨RJ2, "compareValues", "([B[BII)I"⟩
abbrev cJ2_compareToLatin1_b82b6 : ByteArray := prog_37_method_32_code
def yJ2_compareToLatin1_b82b6 : MethodName := ⟨RJ2, "compareToLatin1", "([B[B)I"⟩
abbrev cJ2_compareToLatin1_66405 : ByteArray := prog_37_method_33_code
def yJ2_compareToLatin1_66405 : MethodName := ⟨RJ2, "compareToLatin1", "([B[BII)I"⟩
abbrev cJ2_putCharSB_b72d1 : ByteArray := prog_37_method_71_code
def yJ2_putCharSB_b72d1 : MethodName := ⟨RJ2, "putCharSB", "([BII)V"⟩
abbrev cJ2_getChars_46870 : ByteArray := prog_37_method_77_code
def yJ2_getChars_46870 : MethodName := ⟨RJ2, "getChars", "(III[B)I"⟩
abbrev cJ2_putCharsAt_cd4e5 : ByteArray := prog_37_method_81_code
def yJ2_putCharsAt_cd4e5 : MethodName := ⟨RJ2, "putCharsAt", "([BICCCC)I"⟩
abbrev cJ2_charAt_3b067 : ByteArray := prog_37_method_83_code
def yJ2_charAt_3b067 : MethodName := ⟨RJ2, "charAt", "([BI)C"⟩
abbrev cJ2_inflate_0e8fd : ByteArray := prog_37_method_86_code
def yJ2_inflate_0e8fd : MethodName := ⟨RJ2, "inflate", "([BI[BII)V"⟩
abbrev cJ2_getChars_ba4f3 : ByteArray := prog_37_method_89_code
def yJ2_getChars_ba4f3 : MethodName := ⟨RJ2, "getChars", "(II[B)I"⟩
abbrev cJ2_checkIndex_2214a : ByteArray := prog_37_method_91_code
def yJ2_checkIndex_2214a : MethodName := ⟨RJ2, "checkIndex", "(I[B)V"⟩
abbrev cJ2_checkOffset_2214a : ByteArray := prog_37_method_92_code
def yJ2_checkOffset_2214a : MethodName := ⟨RJ2, "checkOffset", "(I[B)V"⟩
abbrev cJ2_checkBoundsBeginEnd_d044e : ByteArray := prog_37_method_93_code
def yJ2_checkBoundsBeginEnd_d044e : MethodName := ⟨RJ2, "checkBoundsBeginEnd", "(II[B)V"⟩
abbrev cJ2_checkBoundsOffCount_d044e : ByteArray := prog_37_method_94_code
def yJ2_checkBoundsOffCount_d044e : MethodName := ⟨RJ2, "checkBoundsOffCount", "(II[B)V"⟩
def RJ10 : String := "java/lang/System"
def TJ10 : u_T := fun k => match k with
  | _ => ("", "", "", false)
def tyJ10 : Nat → FieldType := fun k => match k with
  | _ => .int
def RJxfd54e : String := "java/lang/constant/Constable"
def TJxfd54e : u_T := fun k => match k with
  | _ => ("", "", "", false)
def tyJxfd54e : Nat → FieldType := fun k => match k with
  | _ => .int
def RJx3cf43 : String := "java/lang/constant/ConstantDesc"
def TJx3cf43 : u_T := fun k => match k with
  | _ => ("", "", "", false)
def tyJx3cf43 : Nat → FieldType := fun k => match k with
  | _ => .int
def RJxa1e45 : String := "java/util/AbstractCollection"
def TJxa1e45 : u_T := fun k => match k with
  | _ => ("", "", "", false)
def tyJxa1e45 : Nat → FieldType := fun k => match k with
  | _ => .int
abbrev cJxa1e45_init_da8c8 : ByteArray := prog_42_method_1_code
def yJxa1e45_init_da8c8 : MethodName := ⟨RJxa1e45, "<init>", "()V"⟩
abbrev cJxa1e45_add_9ea2d : ByteArray := prog_42_method_9_code
def yJxa1e45_add_9ea2d : MethodName := ⟨RJxa1e45, "add", "(Ljava/lang/Object;)Z"⟩
abbrev cJxa1e45_addAll_f0b43 : ByteArray := prog_42_method_12_code
def yJxa1e45_addAll_f0b43 : MethodName := ⟨RJxa1e45, "addAll", "(Ljava/util/Collection;)Z"⟩
def RJxc12de : String := "java/util/AbstractList"
def TJxc12de : u_T := fun k => match k with
  | _ => ("", "", "", false)
def tyJxc12de : Nat → FieldType := fun k => match k with
  | _ => .int
abbrev cJxc12de_init_da8c8 : ByteArray := prog_43_method_1_code
def yJxc12de_init_da8c8 : MethodName := ⟨RJxc12de, "<init>", "()V"⟩
def RX15 : String := "java/util/AbstractMap"
def TX15 : u_T := fun k => match k with
  | _ => ("", "", "", false)
def tyX15 : Nat → FieldType := fun k => match k with
  | _ => .int
abbrev cX15_init : ByteArray := prog_44_method_1_code
def yX15_init : MethodName := ⟨RX15, "<init>", "()V"⟩
def RX16 : String := "java/util/AbstractSet"
def TX16 : u_T := fun k => match k with
  | _ => ("", "", "", false)
def tyX16 : Nat → FieldType := fun k => match k with
  | _ => .int
abbrev cX16_init : ByteArray := prog_45_method_1_code
def yX16_init : MethodName := ⟨RX16, "<init>", "()V"⟩
def RJx35411 : String := "java/util/ArrayList$Itr"
def TJx35411 : u_T := fun k => match k with
  | 0 => ("java/util/ArrayList$Itr", "cursor", "I", false)
  | 1 => ("java/util/ArrayList$Itr", "lastRet", "I", false)
  | 2 => ("java/util/ArrayList$Itr", "expectedModCount", "I", false)
  | _ => ("java/util/ArrayList$Itr", "this$0", "Ljava/util/ArrayList;", true)
def tyJx35411 : Nat → FieldType := fun k => match k with
  | 0 => .int
  | 1 => .int
  | 2 => .int
  | _ => .object "java/util/ArrayList"
abbrev cJx35411_init_45d68 : ByteArray := prog_47_method_1_code
def yJx35411_init_45d68 : MethodName := ⟨RJx35411, "<init>", "(Ljava/util/ArrayList;)V"⟩
abbrev cJx35411_hasNext_aae02 : ByteArray := prog_47_method_2_code
def yJx35411_hasNext_aae02 : MethodName := ⟨RJx35411, "hasNext", "()Z"⟩
abbrev cJx35411_next_0502b : ByteArray := prog_47_method_3_code
def yJx35411_next_0502b : MethodName := ⟨RJx35411, "next", "()Ljava/lang/Object;"⟩
abbrev cJx35411_checkForComodification_da8c8 : ByteArray := prog_47_method_6_code
def yJx35411_checkForComodification_da8c8 : MethodName := ⟨RJx35411, "checkForComodification", "()V"⟩
def RJx4a65c : String := "java/util/ArrayList"
def TJx4a65c : u_T := fun k => match k with
  | 0 => ("java/util/AbstractList", "modCount", "I", false)
  | 1 => ("java/util/ArrayList", "elementData", "[Ljava/lang/Object;", false)
  | _ => ("java/util/ArrayList", "size", "I", false)
def tyJx4a65c : Nat → FieldType := fun k => match k with
  | 0 => .int
  | 1 => .array (.object "java/lang/Object")
  | _ => .int
abbrev cJx4a65c_init_da8c8 : ByteArray := prog_46_method_2_code
def yJx4a65c_init_da8c8 : MethodName := ⟨RJx4a65c, "<init>", "()V"⟩
abbrev cJx4a65c_grow_92f84 : ByteArray := prog_46_method_6_code
def yJx4a65c_grow_92f84 : MethodName := ⟨RJx4a65c, "grow", "(I)[Ljava/lang/Object;"⟩
abbrev cJx4a65c_grow_d5877 : ByteArray := prog_46_method_7_code
def yJx4a65c_grow_d5877 : MethodName := ⟨RJx4a65c, "grow", "()[Ljava/lang/Object;"⟩
abbrev cJx4a65c_size_8abf5 : ByteArray := prog_46_method_8_code
def yJx4a65c_size_8abf5 : MethodName := ⟨RJx4a65c, "size", "()I"⟩
abbrev cJx4a65c_isEmpty_aae02 : ByteArray := prog_46_method_9_code
def yJx4a65c_isEmpty_aae02 : MethodName := ⟨RJx4a65c, "isEmpty", "()Z"⟩
abbrev cJx4a65c_elementData_915e3 : ByteArray := prog_46_method_18_code
def yJx4a65c_elementData_915e3 : MethodName := ⟨RJx4a65c, "elementData", "(I)Ljava/lang/Object;"⟩
abbrev cJx4a65c_get_915e3 : ByteArray := prog_46_method_20_code
def yJx4a65c_get_915e3 : MethodName := ⟨RJx4a65c, "get", "(I)Ljava/lang/Object;"⟩
abbrev cJx4a65c_add_72be8 : ByteArray := prog_46_method_24_code
def yJx4a65c_add_72be8 : MethodName := ⟨RJx4a65c, "add", "(Ljava/lang/Object;[Ljava/lang/Object;I)V"⟩
abbrev cJx4a65c_add_9ea2d : ByteArray := prog_46_method_25_code
def yJx4a65c_add_9ea2d : MethodName := ⟨RJx4a65c, "add", "(Ljava/lang/Object;)Z"⟩
abbrev cJx4a65c_iterator_32c93 : ByteArray := prog_46_method_55_code
def yJx4a65c_iterator_32c93 : MethodName := ⟨RJx4a65c, "iterator", "()Ljava/util/Iterator;"⟩
def RJ7 : String := "java/util/Arrays"
def TJ7 : u_T := fun k => match k with
  | _ => ("", "", "", false)
def tyJ7 : Nat → FieldType := fun k => match k with
  | _ => .int
abbrev cJ7_fill_53178 : ByteArray := prog_48_method_103_code
def yJ7_fill_53178 : MethodName := ⟨RJ7, "fill", "([II)V"⟩
abbrev cJ7_copyOf_1904c : ByteArray := prog_48_method_119_code
def yJ7_copyOf_1904c : MethodName := ⟨RJ7, "copyOf", "([Ljava/lang/Object;I)[Ljava/lang/Object;"⟩
abbrev cJ7_copyOf_6403c : ByteArray := prog_48_method_120_code
def yJ7_copyOf_6403c : MethodName := ⟨RJ7, "copyOf", "([Ljava/lang/Object;ILjava/lang/Class;)[Ljava/lang/Object;"⟩
abbrev cJ7_copyOf_9075b : ByteArray := prog_48_method_121_code
def yJ7_copyOf_9075b : MethodName := ⟨RJ7, "copyOf", "([BI)[B"⟩
abbrev cJ7_checkLength_df160 : ByteArray := prog_48_method_131_code
def yJ7_checkLength_df160 : MethodName := ⟨RJ7, "checkLength", "(II)V"⟩
abbrev cJ7_copyOfRange_39247 : ByteArray := prog_48_method_132_code
def yJ7_copyOfRange_39247 : MethodName := ⟨RJ7, "copyOfRange", "([BII)[B"⟩
abbrev cJ7_copyOfRangeByte_39247 : ByteArray := prog_48_method_133_code
def yJ7_copyOfRangeByte_39247 : MethodName := ⟨RJ7, "copyOfRangeByte", "([BII)[B"⟩
def RJx5ef63 : String := "java/util/Collection"
def TJx5ef63 : u_T := fun k => match k with
  | _ => ("", "", "", false)
def tyJx5ef63 : Nat → FieldType := fun k => match k with
  | _ => .int
def RJxa8996 : String := "java/util/Comparator"
def TJxa8996 : u_T := fun k => match k with
  | _ => ("", "", "", false)
def tyJxa8996 : Nat → FieldType := fun k => match k with
  | _ => .int
def RJx4d0d8 : String := "java/util/Iterator"
def TJx4d0d8 : u_T := fun k => match k with
  | _ => ("", "", "", false)
def tyJx4d0d8 : Nat → FieldType := fun k => match k with
  | _ => .int
def RJxbd725 : String := "java/util/List"
def TJxbd725 : u_T := fun k => match k with
  | _ => ("", "", "", false)
def tyJxbd725 : Nat → FieldType := fun k => match k with
  | _ => .int
def RJxf0cc3 : String := "java/util/Map$Entry"
def TJxf0cc3 : u_T := fun k => match k with
  | _ => ("", "", "", false)
def tyJxf0cc3 : Nat → FieldType := fun k => match k with
  | _ => .int
def RJxdf0bc : String := "java/util/Map"
def TJxdf0bc : u_T := fun k => match k with
  | _ => ("", "", "", false)
def tyJxdf0bc : Nat → FieldType := fun k => match k with
  | _ => .int
def RJxf6e05 : String := "java/util/NavigableMap"
def TJxf6e05 : u_T := fun k => match k with
  | _ => ("", "", "", false)
def tyJxf6e05 : Nat → FieldType := fun k => match k with
  | _ => .int
def RJxe7662 : String := "java/util/NavigableSet"
def TJxe7662 : u_T := fun k => match k with
  | _ => ("", "", "", false)
def tyJxe7662 : Nat → FieldType := fun k => match k with
  | _ => .int
def RJ15 : String := "java/util/Objects"
def TJ15 : u_T := fun k => match k with
  | _ => ("", "", "", false)
def tyJ15 : Nat → FieldType := fun k => match k with
  | _ => .int
abbrev cJ15_equals_d1b26 : ByteArray := prog_57_method_2_code
def yJ15_equals_d1b26 : MethodName := ⟨RJ15, "equals", "(Ljava/lang/Object;Ljava/lang/Object;)Z"⟩
abbrev cJ15_requireNonNull_262c5 : ByteArray := prog_57_method_10_code
def yJ15_requireNonNull_262c5 : MethodName := ⟨RJ15, "requireNonNull", "(Ljava/lang/Object;)Ljava/lang/Object;"⟩
abbrev cJ15_checkIndex_7cf53 : ByteArray := prog_57_method_17_code
def yJ15_checkIndex_7cf53 : MethodName := ⟨RJ15, "checkIndex", "(II)I"⟩
def RJxf0a74 : String := "java/util/RandomAccess"
def TJxf0a74 : u_T := fun k => match k with
  | _ => ("", "", "", false)
def tyJxf0a74 : Nat → FieldType := fun k => match k with
  | _ => .int
def RJxa66e6 : String := "java/util/SequencedCollection"
def TJxa66e6 : u_T := fun k => match k with
  | _ => ("", "", "", false)
def tyJxa66e6 : Nat → FieldType := fun k => match k with
  | _ => .int
def RJxe8c38 : String := "java/util/SequencedMap"
def TJxe8c38 : u_T := fun k => match k with
  | _ => ("", "", "", false)
def tyJxe8c38 : Nat → FieldType := fun k => match k with
  | _ => .int
def RJxe1453 : String := "java/util/SequencedSet"
def TJxe1453 : u_T := fun k => match k with
  | _ => ("", "", "", false)
def tyJxe1453 : Nat → FieldType := fun k => match k with
  | _ => .int
def RJx55279 : String := "java/util/Set"
def TJx55279 : u_T := fun k => match k with
  | _ => ("", "", "", false)
def tyJx55279 : Nat → FieldType := fun k => match k with
  | _ => .int
def RJx03f2f : String := "java/util/SortedMap"
def TJx03f2f : u_T := fun k => match k with
  | _ => ("", "", "", false)
def tyJx03f2f : Nat → FieldType := fun k => match k with
  | _ => .int
def RJxe7c12 : String := "java/util/SortedSet"
def TJxe7c12 : u_T := fun k => match k with
  | _ => ("", "", "", false)
def tyJxe7c12 : Nat → FieldType := fun k => match k with
  | _ => .int
def RX17 : String := "java/util/TreeMap$Entry"
def TX17 : u_T := fun k => match k with
  | 0 => ("java/util/TreeMap$Entry", "key", "Ljava/lang/Object;", false)
  | 1 => ("java/util/TreeMap$Entry", "value", "Ljava/lang/Object;", false)
  | 2 => ("java/util/TreeMap$Entry", "left", "Ljava/util/TreeMap$Entry;", false)
  | 3 => ("java/util/TreeMap$Entry", "right", "Ljava/util/TreeMap$Entry;", false)
  | 4 => ("java/util/TreeMap$Entry", "parent", "Ljava/util/TreeMap$Entry;", false)
  | _ => ("java/util/TreeMap$Entry", "color", "Z", false)
def tyX17 : Nat → FieldType := fun k => match k with
  | 0 => .object "java/lang/Object"
  | 1 => .object "java/lang/Object"
  | 2 => .object "java/util/TreeMap$Entry"
  | 3 => .object "java/util/TreeMap$Entry"
  | 4 => .object "java/util/TreeMap$Entry"
  | _ => .boolean
abbrev cX17_init : ByteArray := prog_66_method_1_code
def yX17_init : MethodName := ⟨RX17, "<init>", "(Ljava/lang/Object;Ljava/lang/Object;Ljava/util/TreeMap$Entry;)V"⟩
abbrev cX17_getKey : ByteArray := prog_66_method_2_code
def yX17_getKey : MethodName := ⟨RX17, "getKey", "()Ljava/lang/Object;"⟩
abbrev cX17_getValue : ByteArray := prog_66_method_3_code
def yX17_getValue : MethodName := ⟨RX17, "getValue", "()Ljava/lang/Object;"⟩
def RX18 : String := "java/util/TreeMap$KeyIterator"
def TX18 : u_T := fun k => match k with
  | 0 => ("java/util/TreeMap$PrivateEntryIterator", "next", "Ljava/util/TreeMap$Entry;", false)
  | 1 => ("java/util/TreeMap$PrivateEntryIterator", "lastReturned", "Ljava/util/TreeMap$Entry;", false)
  | 2 => ("java/util/TreeMap$PrivateEntryIterator", "expectedModCount", "I", false)
  | _ => ("java/util/TreeMap$PrivateEntryIterator", "this$0", "Ljava/util/TreeMap;", true)
def tyX18 : Nat → FieldType := fun k => match k with
  | 0 => .object "java/util/TreeMap$Entry"
  | 1 => .object "java/util/TreeMap$Entry"
  | 2 => .int
  | _ => .object "java/util/TreeMap"
abbrev cX18_init : ByteArray := prog_67_method_1_code
def yX18_init : MethodName := ⟨RX18, "<init>", "(Ljava/util/TreeMap;Ljava/util/TreeMap$Entry;)V"⟩
abbrev cX18_next : ByteArray := prog_67_method_2_code
def yX18_next : MethodName := ⟨RX18, "next", "()Ljava/lang/Object;"⟩
def RX19 : String := "java/util/TreeMap$KeySet"
def TX19 : u_T := fun k => match k with
  | _ => ("java/util/TreeMap$KeySet", "m", "Ljava/util/NavigableMap;", true)
def tyX19 : Nat → FieldType := fun k => match k with
  | _ => .object "java/util/NavigableMap"
abbrev cX19_init : ByteArray := prog_68_method_1_code
def yX19_init : MethodName := ⟨RX19, "<init>", "(Ljava/util/NavigableMap;)V"⟩
abbrev cX19_iterator : ByteArray := prog_68_method_2_code
def yX19_iterator : MethodName := ⟨RX19, "iterator", "()Ljava/util/Iterator;"⟩
abbrev cX19_size : ByteArray := prog_68_method_4_code
def yX19_size : MethodName := ⟨RX19, "size", "()I"⟩
abbrev cX19_comparator : ByteArray := prog_68_method_14_code
def yX19_comparator : MethodName := ⟨RX19, "comparator", "()Ljava/util/Comparator;"⟩
def RX20 : String := "java/util/TreeMap$NavigableSubMap"
def TX20 : u_T := fun k => match k with
  | _ => ("", "", "", false)
def tyX20 : Nat → FieldType := fun k => match k with
  | _ => .int
def RX21 : String := "java/util/TreeMap$PrivateEntryIterator"
def TX21 : u_T := fun k => match k with
  | _ => ("", "", "", false)
def tyX21 : Nat → FieldType := fun k => match k with
  | _ => .int
abbrev cX21_init : ByteArray := prog_70_method_1_code
def yX21_init : MethodName := ⟨RX21, "<init>", "(Ljava/util/TreeMap;Ljava/util/TreeMap$Entry;)V"⟩
abbrev cX21_hasNext : ByteArray := prog_70_method_2_code
def yX21_hasNext : MethodName := ⟨RX21, "hasNext", "()Z"⟩
abbrev cX21_nextEntry : ByteArray := prog_70_method_3_code
def yX21_nextEntry : MethodName := ⟨RX21, "nextEntry", "()Ljava/util/TreeMap$Entry;"⟩
def RX22 : String := "java/util/TreeMap"
def TX22 : u_T := fun k => match k with
  | 0 => ("java/util/AbstractMap", "keySet", "Ljava/util/Set;", false)
  | 1 => ("java/util/AbstractMap", "values", "Ljava/util/Collection;", false)
  | 2 => ("java/util/TreeMap", "comparator", "Ljava/util/Comparator;", true)
  | 3 => ("java/util/TreeMap", "root", "Ljava/util/TreeMap$Entry;", false)
  | 4 => ("java/util/TreeMap", "size", "I", false)
  | 5 => ("java/util/TreeMap", "modCount", "I", false)
  | 6 => ("java/util/TreeMap", "entrySet", "Ljava/util/TreeMap$EntrySet;", false)
  | 7 => ("java/util/TreeMap", "navigableKeySet", "Ljava/util/TreeMap$KeySet;", false)
  | _ => ("java/util/TreeMap", "descendingMap", "Ljava/util/NavigableMap;", false)
def tyX22 : Nat → FieldType := fun k => match k with
  | 0 => .object "java/util/Set"
  | 1 => .object "java/util/Collection"
  | 2 => .object "java/util/Comparator"
  | 3 => .object "java/util/TreeMap$Entry"
  | 4 => .int
  | 5 => .int
  | 6 => .object "java/util/TreeMap$EntrySet"
  | 7 => .object "java/util/TreeMap$KeySet"
  | _ => .object "java/util/NavigableMap"
abbrev cX22_init : ByteArray := prog_65_method_1_code
def yX22_init : MethodName := ⟨RX22, "<init>", "()V"⟩
abbrev cX22_init_ : ByteArray := prog_65_method_2_code
def yX22_init_ : MethodName := ⟨RX22, "<init>", "(Ljava/util/Comparator;)V"⟩
abbrev cX22_size : ByteArray := prog_65_method_5_code
def yX22_size : MethodName := ⟨RX22, "size", "()I"⟩
abbrev cX22_containsKey : ByteArray := prog_65_method_6_code
def yX22_containsKey : MethodName := ⟨RX22, "containsKey", "(Ljava/lang/Object;)Z"⟩
abbrev cX22_comparator : ByteArray := prog_65_method_9_code
def yX22_comparator : MethodName := ⟨RX22, "comparator", "()Ljava/util/Comparator;"⟩
abbrev cX22_getEntry : ByteArray := prog_65_method_15_code
def yX22_getEntry : MethodName := ⟨RX22, "getEntry", "(Ljava/lang/Object;)Ljava/util/TreeMap$Entry;"⟩
abbrev cX22_getEntryUsingComparator : ByteArray := prog_65_method_16_code
def yX22_getEntryUsingComparator : MethodName := ⟨RX22, "getEntryUsingComparator", "(Ljava/lang/Object;)Ljava/util/TreeMap$Entry;"⟩
abbrev cX22_put : ByteArray := prog_65_method_21_code
def yX22_put : MethodName := ⟨RX22, "put", "(Ljava/lang/Object;Ljava/lang/Object;)Ljava/lang/Object;"⟩
abbrev cX22_addEntry : ByteArray := prog_65_method_29_code
def yX22_addEntry : MethodName := ⟨RX22, "addEntry", "(Ljava/lang/Object;Ljava/lang/Object;Ljava/util/TreeMap$Entry;Z)V"⟩
abbrev cX22_addEntryToEmptyMap : ByteArray := prog_65_method_30_code
def yX22_addEntryToEmptyMap : MethodName := ⟨RX22, "addEntryToEmptyMap", "(Ljava/lang/Object;Ljava/lang/Object;)V"⟩
abbrev cX22_put_ : ByteArray := prog_65_method_31_code
def yX22_put_ : MethodName := ⟨RX22, "put", "(Ljava/lang/Object;Ljava/lang/Object;Z)Ljava/lang/Object;"⟩
abbrev cX22_remove : ByteArray := prog_65_method_34_code
def yX22_remove : MethodName := ⟨RX22, "remove", "(Ljava/lang/Object;)Ljava/lang/Object;"⟩
abbrev cX22_navigableKeySet : ByteArray := prog_65_method_50_code
def yX22_navigableKeySet : MethodName := ⟨RX22, "navigableKeySet", "()Ljava/util/NavigableSet;"⟩
abbrev cX22_keyIterator : ByteArray := prog_65_method_65_code
def yX22_keyIterator : MethodName := ⟨RX22, "keyIterator", "()Ljava/util/Iterator;"⟩
abbrev cX22_compare : ByteArray := prog_65_method_67_code
def yX22_compare : MethodName := ⟨RX22, "compare", "(Ljava/lang/Object;Ljava/lang/Object;)I"⟩
abbrev cX22_getFirstEntry : ByteArray := prog_65_method_72_code
def yX22_getFirstEntry : MethodName := ⟨RX22, "getFirstEntry", "()Ljava/util/TreeMap$Entry;"⟩
abbrev cX22_successor : ByteArray := prog_65_method_74_code
def yX22_successor : MethodName := ⟨RX22, "successor", "(Ljava/util/TreeMap$Entry;)Ljava/util/TreeMap$Entry;"⟩
abbrev cX22_colorOf : ByteArray := prog_65_method_76_code
def yX22_colorOf : MethodName := ⟨RX22, "colorOf", "(Ljava/util/TreeMap$Entry;)Z"⟩
abbrev cX22_parentOf : ByteArray := prog_65_method_77_code
def yX22_parentOf : MethodName := ⟨RX22, "parentOf", "(Ljava/util/TreeMap$Entry;)Ljava/util/TreeMap$Entry;"⟩
abbrev cX22_setColor : ByteArray := prog_65_method_78_code
def yX22_setColor : MethodName := ⟨RX22, "setColor", "(Ljava/util/TreeMap$Entry;Z)V"⟩
abbrev cX22_leftOf : ByteArray := prog_65_method_79_code
def yX22_leftOf : MethodName := ⟨RX22, "leftOf", "(Ljava/util/TreeMap$Entry;)Ljava/util/TreeMap$Entry;"⟩
abbrev cX22_rightOf : ByteArray := prog_65_method_80_code
def yX22_rightOf : MethodName := ⟨RX22, "rightOf", "(Ljava/util/TreeMap$Entry;)Ljava/util/TreeMap$Entry;"⟩
abbrev cX22_rotateLeft : ByteArray := prog_65_method_81_code
def yX22_rotateLeft : MethodName := ⟨RX22, "rotateLeft", "(Ljava/util/TreeMap$Entry;)V"⟩
abbrev cX22_rotateRight : ByteArray := prog_65_method_82_code
def yX22_rotateRight : MethodName := ⟨RX22, "rotateRight", "(Ljava/util/TreeMap$Entry;)V"⟩
abbrev cX22_fixAfterInsertion : ByteArray := prog_65_method_83_code
def yX22_fixAfterInsertion : MethodName := ⟨RX22, "fixAfterInsertion", "(Ljava/util/TreeMap$Entry;)V"⟩
abbrev cX22_deleteEntry : ByteArray := prog_65_method_84_code
def yX22_deleteEntry : MethodName := ⟨RX22, "deleteEntry", "(Ljava/util/TreeMap$Entry;)V"⟩
abbrev cX22_fixAfterDeletion : ByteArray := prog_65_method_85_code
def yX22_fixAfterDeletion : MethodName := ⟨RX22, "fixAfterDeletion", "(Ljava/util/TreeMap$Entry;)V"⟩
abbrev cX22_addAllForTreeSet : ByteArray := prog_65_method_89_code
def yX22_addAllForTreeSet : MethodName := ⟨RX22, "addAllForTreeSet", "(Ljava/util/SortedSet;Ljava/lang/Object;)V"⟩
abbrev cX22_buildFromSorted : ByteArray := prog_65_method_90_code
def yX22_buildFromSorted : MethodName := ⟨RX22, "buildFromSorted", "(ILjava/util/Iterator;Ljava/io/ObjectInputStream;Ljava/lang/Object;)V"⟩
abbrev cX22_buildFromSorted_ : ByteArray := prog_65_method_91_code
def yX22_buildFromSorted_ : MethodName := ⟨RX22, "buildFromSorted", "(IIIILjava/util/Iterator;Ljava/io/ObjectInputStream;Ljava/lang/Object;)Ljava/util/TreeMap$Entry;"⟩
abbrev cX22_computeRedLevel : ByteArray := prog_65_method_92_code
def yX22_computeRedLevel : MethodName := ⟨RX22, "computeRedLevel", "(I)I"⟩
def RX23 : String := "java/util/TreeSet"
def TX23 : u_T := fun k => match k with
  | _ => ("java/util/TreeSet", "m", "Ljava/util/NavigableMap;", false)
def tyX23 : Nat → FieldType := fun k => match k with
  | _ => .object "java/util/NavigableMap"
abbrev cX23_init : ByteArray := prog_71_method_1_code
def yX23_init : MethodName := ⟨RX23, "<init>", "(Ljava/util/NavigableMap;)V"⟩
abbrev cX23_init_ : ByteArray := prog_71_method_2_code
def yX23_init_ : MethodName := ⟨RX23, "<init>", "()V"⟩
abbrev cX23_init__ : ByteArray := prog_71_method_3_code
def yX23_init__ : MethodName := ⟨RX23, "<init>", "(Ljava/util/Comparator;)V"⟩
abbrev cX23_init___ : ByteArray := prog_71_method_5_code
def yX23_init___ : MethodName := ⟨RX23, "<init>", "(Ljava/util/SortedSet;)V"⟩
abbrev cX23_iterator : ByteArray := prog_71_method_6_code
def yX23_iterator : MethodName := ⟨RX23, "iterator", "()Ljava/util/Iterator;"⟩
abbrev cX23_size : ByteArray := prog_71_method_9_code
def yX23_size : MethodName := ⟨RX23, "size", "()I"⟩
abbrev cX23_contains : ByteArray := prog_71_method_11_code
def yX23_contains : MethodName := ⟨RX23, "contains", "(Ljava/lang/Object;)Z"⟩
abbrev cX23_add : ByteArray := prog_71_method_12_code
def yX23_add : MethodName := ⟨RX23, "add", "(Ljava/lang/Object;)Z"⟩
abbrev cX23_remove : ByteArray := prog_71_method_13_code
def yX23_remove : MethodName := ⟨RX23, "remove", "(Ljava/lang/Object;)Z"⟩
abbrev cX23_addAll : ByteArray := prog_71_method_15_code
def yX23_addAll : MethodName := ⟨RX23, "addAll", "(Ljava/util/Collection;)Z"⟩
abbrev cX23_comparator : ByteArray := prog_71_method_22_code
def yX23_comparator : MethodName := ⟨RX23, "comparator", "()Ljava/util/Comparator;"⟩
def RJx9a822 : String := "jdk/internal/misc/Unsafe"
def TJx9a822 : u_T := fun k => match k with
  | _ => ("", "", "", false)
def tyJx9a822 : Nat → FieldType := fun k => match k with
  | _ => .int
abbrev cJx9a822_getLongUnaligned_f02c6 : ByteArray := prog_72_method_334_code
def yJx9a822_getLongUnaligned_f02c6 : MethodName := ⟨RJx9a822, "getLongUnaligned", "(Ljava/lang/Object;J)J"⟩
abbrev cJx9a822_getIntUnaligned_25a47 : ByteArray := prog_72_method_336_code
def yJx9a822_getIntUnaligned_25a47 : MethodName := ⟨RJx9a822, "getIntUnaligned", "(Ljava/lang/Object;J)I"⟩
abbrev cJx9a822_pickPos_7cf53 : ByteArray := prog_72_method_350_code
def yJx9a822_pickPos_7cf53 : MethodName := ⟨RJx9a822, "pickPos", "(II)I"⟩
abbrev cJx9a822_makeLong_0477f : ByteArray := prog_72_method_351_code
def yJx9a822_makeLong_0477f : MethodName := ⟨RJx9a822, "makeLong", "(BBBBBBBB)J"⟩
abbrev cJx9a822_makeLong_4b46d : ByteArray := prog_72_method_352_code
def yJx9a822_makeLong_4b46d : MethodName := ⟨RJx9a822, "makeLong", "(SSSS)J"⟩
abbrev cJx9a822_makeLong_a216e : ByteArray := prog_72_method_353_code
def yJx9a822_makeLong_a216e : MethodName := ⟨RJx9a822, "makeLong", "(II)J"⟩
abbrev cJx9a822_makeInt_4e28c : ByteArray := prog_72_method_354_code
def yJx9a822_makeInt_4e28c : MethodName := ⟨RJx9a822, "makeInt", "(SS)I"⟩
abbrev cJx9a822_makeInt_86272 : ByteArray := prog_72_method_355_code
def yJx9a822_makeInt_86272 : MethodName := ⟨RJx9a822, "makeInt", "(BBBB)I"⟩
abbrev cJx9a822_toUnsignedInt_4d018 : ByteArray := prog_72_method_366_code
def yJx9a822_toUnsignedInt_4d018 : MethodName := ⟨RJx9a822, "toUnsignedInt", "(B)I"⟩
abbrev cJx9a822_toUnsignedInt_f1ed4 : ByteArray := prog_72_method_367_code
def yJx9a822_toUnsignedInt_f1ed4 : MethodName := ⟨RJx9a822, "toUnsignedInt", "(S)I"⟩
abbrev cJx9a822_toUnsignedLong_c5be9 : ByteArray := prog_72_method_368_code
def yJx9a822_toUnsignedLong_c5be9 : MethodName := ⟨RJx9a822, "toUnsignedLong", "(B)J"⟩
abbrev cJx9a822_toUnsignedLong_51cfc : ByteArray := prog_72_method_369_code
def yJx9a822_toUnsignedLong_51cfc : MethodName := ⟨RJx9a822, "toUnsignedLong", "(S)J"⟩
abbrev cJx9a822_toUnsignedLong_3e8ac : ByteArray := prog_72_method_370_code
def yJx9a822_toUnsignedLong_3e8ac : MethodName := ⟨RJx9a822, "toUnsignedLong", "(I)J"⟩
def RJxf92f9 : String := "jdk/internal/misc/UnsafeConstants"
def TJxf92f9 : u_T := fun k => match k with
  | _ => ("", "", "", false)
def tyJxf92f9 : Nat → FieldType := fun k => match k with
  | _ => .int
def RJ8 : String := "jdk/internal/util/ArraysSupport"
def TJ8 : u_T := fun k => match k with
  | _ => ("", "", "", false)
def tyJ8 : Nat → FieldType := fun k => match k with
  | _ => .int
abbrev cJ8_vectorizedMismatch_456ae : ByteArray := prog_74_method_3_code
def yJ8_vectorizedMismatch_456ae : MethodName := ⟨RJ8, "vectorizedMismatch", "(Ljava/lang/Object;JLjava/lang/Object;JII)I"⟩
abbrev cJ8_mismatch_cb723 : ByteArray := prog_74_method_13_code
def yJ8_mismatch_cb723 : MethodName := ⟨RJ8, "mismatch", "([B[BI)I"⟩
abbrev cJ8_newLength_cabcc : ByteArray := prog_74_method_27_code
def yJ8_newLength_cabcc : MethodName := ⟨RJ8, "newLength", "(III)I"⟩
abbrev cJ8_hugeLength_7cf53 : ByteArray := prog_74_method_28_code
def yJ8_hugeLength_7cf53 : MethodName := ⟨RJ8, "hugeLength", "(II)I"⟩
def RJ3 : String := "jdk/internal/util/Preconditions"
def TJ3 : u_T := fun k => match k with
  | _ => ("", "", "", false)
def tyJ3 : Nat → FieldType := fun k => match k with
  | _ => .int
abbrev cJ3_checkIndex_8e157 : ByteArray := prog_75_method_11_code
def yJ3_checkIndex_8e157 : MethodName := ⟨RJ3, "checkIndex", "(IILjava/util/function/BiFunction;)I"⟩
abbrev cJ3_checkFromToIndex_8c36e : ByteArray := prog_75_method_12_code
def yJ3_checkFromToIndex_8c36e : MethodName := ⟨RJ3, "checkFromToIndex", "(IIILjava/util/function/BiFunction;)I"⟩
abbrev cJ3_checkFromIndexSize_8c36e : ByteArray := prog_75_method_13_code
def yJ3_checkFromIndexSize_8c36e : MethodName := ⟨RJ3, "checkFromIndexSize", "(IIILjava/util/function/BiFunction;)I"⟩
def RL : String := "WakeVillageLaw"
abbrev cL_cell : ByteArray := method_2_code
def yL_cell : MethodName := ⟨RL, "cell", "([II)I"⟩
abbrev cL_pick : ByteArray := method_3_code
def yL_pick : MethodName := ⟨RL, "pick", "([III)I"⟩
abbrev cL_feeds : ByteArray := method_4_code
def yL_feeds : MethodName := ⟨RL, "feeds", "(LWakeVillage;Ljava/lang/String;)Z"⟩
abbrev cL_alike : ByteArray := method_5_code
def yL_alike : MethodName := ⟨RL, "alike", "(LWakeVillage;LWakeVillageLaw$World;)Z"⟩
abbrev cL_acts : ByteArray := method_6_code
def yL_acts : MethodName := ⟨RL, "acts", "(LWakeVillage;LWakeVillageLaw$World;[II)Z"⟩
abbrev cL_holds : ByteArray := method_7_code
def yL_holds : MethodName := ⟨RL, "holds", "(LWakeVillage;)Z"⟩
abbrev cL_comes : ByteArray := method_8_code
def yL_comes : MethodName := ⟨RL, "comes", "(LWakeVillage;LWakeVillageLaw$World;IIZ)Z"⟩
abbrev cL_law : ByteArray := code
def yL_law : MethodName := ⟨RL, "law", "([I)Z"⟩
abbrev vwCl : List vw_C := [(RJ0, TJ0, 4), (RJ4, TJ4, 4), (RJ6, TJ6, 1), (RJx35411, TJx35411, 4), (RJx4a65c, TJx4a65c, 3), (RX0, TX0, 7), (RX1, TX1, 1), (RX2, TX2, 3), (RX3, TX3, 5), (RX4, TX4, 8), (RX5, TX5, 10), (RX6, TX6, 2), (RX7, TX7, 5), (RX8, TX8, 10), (RX9, TX9, 3), (RX10, TX10, 16), (RX11, TX11, 10), (RX12, TX12, 7), (RX13, TX13, 11), (RX17, TX17, 6), (RX18, TX18, 4), (RX19, TX19, 1), (RX22, TX22, 9), (RX23, TX23, 1)]
abbrev q_wX0 : List Cond := u_ws RX0 TX0 7
theorem q_nX0 : ∀ a, a < 7 → ∀ b, b < 7 → a ≠ b → (TX0 a).2.1 ≠ (TX0 b).2.1 := by decide +kernel
theorem q_yX0 : ∀ k, k < 7 → parseFieldDescriptor (TX0 k).2.2.1 = some (tyX0 k) := by decide +kernel
abbrev q_wX1 : List Cond := u_ws RX1 TX1 1
theorem q_nX1 : ∀ a, a < 1 → ∀ b, b < 1 → a ≠ b → (TX1 a).2.1 ≠ (TX1 b).2.1 := by decide +kernel
theorem q_yX1 : ∀ k, k < 1 → parseFieldDescriptor (TX1 k).2.2.1 = some (tyX1 k) := by decide +kernel
abbrev q_wX2 : List Cond := u_ws RX2 TX2 3
theorem q_nX2 : ∀ a, a < 3 → ∀ b, b < 3 → a ≠ b → (TX2 a).2.1 ≠ (TX2 b).2.1 := by decide +kernel
theorem q_yX2 : ∀ k, k < 3 → parseFieldDescriptor (TX2 k).2.2.1 = some (tyX2 k) := by decide +kernel
abbrev q_wX3 : List Cond := u_ws RX3 TX3 5
theorem q_nX3 : ∀ a, a < 5 → ∀ b, b < 5 → a ≠ b → (TX3 a).2.1 ≠ (TX3 b).2.1 := by decide +kernel
theorem q_yX3 : ∀ k, k < 5 → parseFieldDescriptor (TX3 k).2.2.1 = some (tyX3 k) := by decide +kernel
abbrev q_wX4 : List Cond := u_ws RX4 TX4 8
theorem q_nX4 : ∀ a, a < 8 → ∀ b, b < 8 → a ≠ b → (TX4 a).2.1 ≠ (TX4 b).2.1 := by decide +kernel
theorem q_yX4 : ∀ k, k < 8 → parseFieldDescriptor (TX4 k).2.2.1 = some (tyX4 k) := by decide +kernel
abbrev q_wX5 : List Cond := u_ws RX5 TX5 10
theorem q_nX5 : ∀ a, a < 10 → ∀ b, b < 10 → a ≠ b → (TX5 a).2.1 ≠ (TX5 b).2.1 := by decide +kernel
theorem q_yX5 : ∀ k, k < 10 → parseFieldDescriptor (TX5 k).2.2.1 = some (tyX5 k) := by decide +kernel
abbrev q_wX6 : List Cond := u_ws RX6 TX6 2
theorem q_nX6 : ∀ a, a < 2 → ∀ b, b < 2 → a ≠ b → (TX6 a).2.1 ≠ (TX6 b).2.1 := by decide +kernel
theorem q_yX6 : ∀ k, k < 2 → parseFieldDescriptor (TX6 k).2.2.1 = some (tyX6 k) := by decide +kernel
abbrev q_wX7 : List Cond := u_ws RX7 TX7 5
theorem q_nX7 : ∀ a, a < 5 → ∀ b, b < 5 → a ≠ b → (TX7 a).2.1 ≠ (TX7 b).2.1 := by decide +kernel
theorem q_yX7 : ∀ k, k < 5 → parseFieldDescriptor (TX7 k).2.2.1 = some (tyX7 k) := by decide +kernel
abbrev q_wX8 : List Cond := u_ws RX8 TX8 10
theorem q_nX8 : ∀ a, a < 10 → ∀ b, b < 10 → a ≠ b → (TX8 a).2.1 ≠ (TX8 b).2.1 := by decide +kernel
theorem q_yX8 : ∀ k, k < 10 → parseFieldDescriptor (TX8 k).2.2.1 = some (tyX8 k) := by decide +kernel
abbrev q_wX9 : List Cond := u_ws RX9 TX9 3
theorem q_nX9 : ∀ a, a < 3 → ∀ b, b < 3 → a ≠ b → (TX9 a).2.1 ≠ (TX9 b).2.1 := by decide +kernel
theorem q_yX9 : ∀ k, k < 3 → parseFieldDescriptor (TX9 k).2.2.1 = some (tyX9 k) := by decide +kernel
abbrev q_wX10 : List Cond := u_ws RX10 TX10 16
theorem q_nX10 : ∀ a, a < 16 → ∀ b, b < 16 → a ≠ b → (TX10 a).2.1 ≠ (TX10 b).2.1 := by decide +kernel
theorem q_yX10 : ∀ k, k < 16 → parseFieldDescriptor (TX10 k).2.2.1 = some (tyX10 k) := by decide +kernel
abbrev q_wX11 : List Cond := u_ws RX11 TX11 10
theorem q_nX11 : ∀ a, a < 10 → ∀ b, b < 10 → a ≠ b → (TX11 a).2.1 ≠ (TX11 b).2.1 := by decide +kernel
theorem q_yX11 : ∀ k, k < 10 → parseFieldDescriptor (TX11 k).2.2.1 = some (tyX11 k) := by decide +kernel
abbrev q_wX12 : List Cond := u_ws RX12 TX12 7
theorem q_nX12 : ∀ a, a < 7 → ∀ b, b < 7 → a ≠ b → (TX12 a).2.1 ≠ (TX12 b).2.1 := by decide +kernel
theorem q_yX12 : ∀ k, k < 7 → parseFieldDescriptor (TX12 k).2.2.1 = some (tyX12 k) := by decide +kernel
abbrev q_wX13 : List Cond := u_ws RX13 TX13 11
theorem q_nX13 : ∀ a, a < 11 → ∀ b, b < 11 → a ≠ b → (TX13 a).2.1 ≠ (TX13 b).2.1 := by decide +kernel
theorem q_yX13 : ∀ k, k < 11 → parseFieldDescriptor (TX13 k).2.2.1 = some (tyX13 k) := by decide +kernel
abbrev q_wJ0 : List Cond := u_ws RJ0 TJ0 4
theorem q_nJ0 : ∀ a, a < 4 → ∀ b, b < 4 → a ≠ b → (TJ0 a).2.1 ≠ (TJ0 b).2.1 := by decide +kernel
theorem q_yJ0 : ∀ k, k < 4 → parseFieldDescriptor (TJ0 k).2.2.1 = some (tyJ0 k) := by decide +kernel
abbrev q_wJ4 : List Cond := u_ws RJ4 TJ4 4
theorem q_nJ4 : ∀ a, a < 4 → ∀ b, b < 4 → a ≠ b → (TJ4 a).2.1 ≠ (TJ4 b).2.1 := by decide +kernel
theorem q_yJ4 : ∀ k, k < 4 → parseFieldDescriptor (TJ4 k).2.2.1 = some (tyJ4 k) := by decide +kernel
abbrev q_wJx4a65c : List Cond := u_ws RJx4a65c TJx4a65c 3
theorem q_nJx4a65c : ∀ a, a < 3 → ∀ b, b < 3 → a ≠ b → (TJx4a65c a).2.1 ≠ (TJx4a65c b).2.1 := by decide +kernel
theorem q_yJx4a65c : ∀ k, k < 3 → parseFieldDescriptor (TJx4a65c k).2.2.1 = some (tyJx4a65c k) := by decide +kernel
abbrev q_wJx35411 : List Cond := u_ws RJx35411 TJx35411 4
theorem q_nJx35411 : ∀ a, a < 4 → ∀ b, b < 4 → a ≠ b → (TJx35411 a).2.1 ≠ (TJx35411 b).2.1 := by decide +kernel
theorem q_yJx35411 : ∀ k, k < 4 → parseFieldDescriptor (TJx35411 k).2.2.1 = some (tyJx35411 k) := by decide +kernel
abbrev q_wX22 : List Cond := u_ws RX22 TX22 9
theorem q_nX22 : ∀ a, a < 9 → ∀ b, b < 9 → a ≠ b → (TX22 a).2.1 ≠ (TX22 b).2.1 := by decide +kernel
theorem q_yX22 : ∀ k, k < 9 → parseFieldDescriptor (TX22 k).2.2.1 = some (tyX22 k) := by decide +kernel
abbrev q_wX17 : List Cond := u_ws RX17 TX17 6
theorem q_nX17 : ∀ a, a < 6 → ∀ b, b < 6 → a ≠ b → (TX17 a).2.1 ≠ (TX17 b).2.1 := by decide +kernel
theorem q_yX17 : ∀ k, k < 6 → parseFieldDescriptor (TX17 k).2.2.1 = some (tyX17 k) := by decide +kernel
abbrev q_wX18 : List Cond := u_ws RX18 TX18 4
theorem q_nX18 : ∀ a, a < 4 → ∀ b, b < 4 → a ≠ b → (TX18 a).2.1 ≠ (TX18 b).2.1 := by decide +kernel
theorem q_yX18 : ∀ k, k < 4 → parseFieldDescriptor (TX18 k).2.2.1 = some (tyX18 k) := by decide +kernel
abbrev q_wX19 : List Cond := u_ws RX19 TX19 1
theorem q_nX19 : ∀ a, a < 1 → ∀ b, b < 1 → a ≠ b → (TX19 a).2.1 ≠ (TX19 b).2.1 := by decide +kernel
theorem q_yX19 : ∀ k, k < 1 → parseFieldDescriptor (TX19 k).2.2.1 = some (tyX19 k) := by decide +kernel
abbrev q_wX23 : List Cond := u_ws RX23 TX23 1
theorem q_nX23 : ∀ a, a < 1 → ∀ b, b < 1 → a ≠ b → (TX23 a).2.1 ≠ (TX23 b).2.1 := by decide +kernel
theorem q_yX23 : ∀ k, k < 1 → parseFieldDescriptor (TX23 k).2.2.1 = some (tyX23 k) := by decide +kernel
