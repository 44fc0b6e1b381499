/-! THE PROGRAM: classes, cells (laid by wip/gen/gen.py) -/
def pg_T0 : u_T := fun k => match k with
  | 0 => ("TicketTag$Memory", "words", "[I", true)
  | 1 => ("TicketTag$Memory", "draft", "[I", true)
  | 2 => ("TicketTag$Memory", "written", "I", false)
  | 3 => ("TicketTag$Memory", "tears", "I", false)
  | 4 => ("TicketTag$Memory", "near", "Z", false)
  | 5 => ("TicketTag$Memory", "tearing", "Z", false)
  | 6 => ("TicketTag$Memory", "wordsBeforeTear", "I", false)
  | _ => ("TicketTag$Memory", "junk", "I", false)
def pg_T1 : u_T := fun k => match k with
  | 0 => ("TicketTag", "memory", "LTicketTag$Memory;", true)
  | 1 => ("TicketTag", "clocks", "[I", true)
  | 2 => ("TicketTag", "barring", "[Z", true)
  | 3 => ("TicketTag", "dialogueGate", "I", false)
  | 4 => ("TicketTag", "openRecord", "I", false)
  | _ => ("TicketTag", "refusal", "I", false)
def pg_T2 : u_T := fun k => match k with
  | 0 => ("TicketTagModel", "thrown", "I", false)
  | 1 => ("TicketTagModel", "words", "[I", true)
  | 2 => ("TicketTagModel", "days", "[I", true)
  | 3 => ("TicketTagModel", "minutes", "[I", true)
  | 4 => ("TicketTagModel", "barred", "[Z", true)
  | 5 => ("TicketTagModel", "gate", "I", false)
  | 6 => ("TicketTagModel", "open", "Z", false)
  | 7 => ("TicketTagModel", "reason", "I", false)
  | 8 => ("TicketTagModel", "tear", "I", false)
  | 9 => ("TicketTagModel", "junk", "I", false)
  | 10 => ("TicketTagModel", "torn", "Z", false)
  | 11 => ("TicketTagModel", "written", "I", false)
  | 12 => ("TicketTagModel", "tears", "I", false)
  | _ => ("TicketTagModel", "record", "[I", true)
def pg_cl : List vw_C := [("TicketTag$Memory", pg_T0, 8), ("TicketTag", pg_T1, 6), ("TicketTagModel", pg_T2, 14)]
def pg_lay : List ev_C := [.inr (1, [some 1, some 2, some 3, none, none, none]), .inr (0, [some 4, some 5, none, none, none, none, none, none]), .inl (.int, 12), .inl (.boolean, 12), .inl (.int, 256), .inl (.int, 7), .inr (2, [none, some 7, some 8, some 9, some 10, none, none, none, none, none, none, none, none, some 11]), .inl (.int, 256), .inl (.int, 12), .inl (.int, 12), .inl (.boolean, 12), .inl (.int, 8), .inl (.long, 1)]
